theorem dX8_init_0 : decode cX8_init 0 = .ok (.aload_n 0, 1) := by decide +kernel
theorem dX8_init_1 : decode cX8_init 1 = .ok (.invokespecial 1, 3) := by decide +kernel
theorem dX8_init_4 : decode cX8_init 4 = .ok (.aload_n 0, 1) := by decide +kernel
theorem dX8_init_5 : decode cX8_init 5 = .ok (.bipush 113, 2) := by decide +kernel
theorem dX8_init_7 : decode cX8_init 7 = .ok (.newarray .int, 2) := by decide +kernel
theorem dX8_init_9 : decode cX8_init 9 = .ok (.putfield 7, 3) := by decide +kernel
theorem dX8_init_12 : decode cX8_init 12 = .ok (.aload_n 0, 1) := by decide +kernel
theorem dX8_init_13 : decode cX8_init 13 = .ok (.bipush 113, 2) := by decide +kernel
theorem dX8_init_15 : decode cX8_init 15 = .ok (.newarray .int, 2) := by decide +kernel
theorem dX8_init_17 : decode cX8_init 17 = .ok (.putfield 13, 3) := by decide +kernel
theorem dX8_init_20 : decode cX8_init 20 = .ok (.aload_n 0, 1) := by decide +kernel
theorem dX8_init_21 : decode cX8_init 21 = .ok (.sipush 904, 3) := by decide +kernel
theorem dX8_init_24 : decode cX8_init 24 = .ok (.newarray .int, 2) := by decide +kernel
theorem dX8_init_26 : decode cX8_init 26 = .ok (.putfield 16, 3) := by decide +kernel
theorem dX8_init_29 : decode cX8_init 29 = .ok (.aload_n 0, 1) := by decide +kernel
theorem dX8_init_30 : decode cX8_init 30 = .ok (.bipush 113, 2) := by decide +kernel
theorem dX8_init_32 : decode cX8_init 32 = .ok (.newarray .int, 2) := by decide +kernel
theorem dX8_init_34 : decode cX8_init 34 = .ok (.putfield 19, 3) := by decide +kernel
theorem dX8_init_37 : decode cX8_init 37 = .ok (.aload_n 0, 1) := by decide +kernel
theorem dX8_init_38 : decode cX8_init 38 = .ok (.bipush 12, 2) := by decide +kernel
theorem dX8_init_40 : decode cX8_init 40 = .ok (.newarray .int, 2) := by decide +kernel
theorem dX8_init_42 : decode cX8_init 42 = .ok (.putfield 22, 3) := by decide +kernel
theorem dX8_init_45 : decode cX8_init 45 = .ok (.aload_n 0, 1) := by decide +kernel
theorem dX8_init_46 : decode cX8_init 46 = .ok (.bipush 12, 2) := by decide +kernel
theorem dX8_init_48 : decode cX8_init 48 = .ok (.newarray .int, 2) := by decide +kernel
theorem dX8_init_50 : decode cX8_init 50 = .ok (.putfield 25, 3) := by decide +kernel
theorem dX8_init_53 : decode cX8_init 53 = .ok (.aload_n 0, 1) := by decide +kernel
theorem dX8_init_54 : decode cX8_init 54 = .ok (.sipush 256, 3) := by decide +kernel
theorem dX8_init_57 : decode cX8_init 57 = .ok (.newarray .boolean, 2) := by decide +kernel
theorem dX8_init_59 : decode cX8_init 59 = .ok (.putfield 28, 3) := by decide +kernel
theorem dX8_init_62 : decode cX8_init 62 = .ok (.aload_n 0, 1) := by decide +kernel
theorem dX8_init_63 : decode cX8_init 63 = .ok (.sipush 1024, 3) := by decide +kernel
theorem dX8_init_66 : decode cX8_init 66 = .ok (.newarray .boolean, 2) := by decide +kernel
theorem dX8_init_68 : decode cX8_init 68 = .ok (.putfield 32, 3) := by decide +kernel
theorem dX8_init_71 : decode cX8_init 71 = .ok (.aload_n 0, 1) := by decide +kernel
theorem dX8_init_72 : decode cX8_init 72 = .ok (.sipush 256, 3) := by decide +kernel
theorem dX8_init_75 : decode cX8_init 75 = .ok (.newarray .long, 2) := by decide +kernel
theorem dX8_init_77 : decode cX8_init 77 = .ok (.putfield 35, 3) := by decide +kernel
theorem dX8_init_80 : decode cX8_init 80 = .ok (.aload_n 0, 1) := by decide +kernel
theorem dX8_init_81 : decode cX8_init 81 = .ok (.sipush 256, 3) := by decide +kernel
theorem dX8_init_84 : decode cX8_init 84 = .ok (.newarray .long, 2) := by decide +kernel
theorem dX8_init_86 : decode cX8_init 86 = .ok (.putfield 39, 3) := by decide +kernel
theorem dX8_init_89 : decode cX8_init 89 = .ok (.aload_n 0, 1) := by decide +kernel
theorem dX8_init_90 : decode cX8_init 90 = .ok (.bipush 8, 2) := by decide +kernel
theorem dX8_init_92 : decode cX8_init 92 = .ok (.newarray .int, 2) := by decide +kernel
theorem dX8_init_94 : decode cX8_init 94 = .ok (.putfield 42, 3) := by decide +kernel
theorem dX8_init_97 : decode cX8_init 97 = .ok (.aload_n 0, 1) := by decide +kernel
theorem dX8_init_98 : decode cX8_init 98 = .ok (.bipush 80, 2) := by decide +kernel
theorem dX8_init_100 : decode cX8_init 100 = .ok (.newarray .char, 2) := by decide +kernel
theorem dX8_init_102 : decode cX8_init 102 = .ok (.putfield 45, 3) := by decide +kernel
theorem dX8_init_105 : decode cX8_init 105 = .ok (.aload_n 0, 1) := by decide +kernel
theorem dX8_init_106 : decode cX8_init 106 = .ok (.iconst 4, 1) := by decide +kernel
theorem dX8_init_107 : decode cX8_init 107 = .ok (.newarray .int, 2) := by decide +kernel
theorem dX8_init_109 : decode cX8_init 109 = .ok (.putfield 49, 3) := by decide +kernel
theorem dX8_init_112 : decode cX8_init 112 = .ok (.aload_n 0, 1) := by decide +kernel
theorem dX8_init_113 : decode cX8_init 113 = .ok (.bipush 6, 2) := by decide +kernel
theorem dX8_init_115 : decode cX8_init 115 = .ok (.anewarray 52, 3) := by decide +kernel
theorem dX8_init_118 : decode cX8_init 118 = .ok (.dup, 1) := by decide +kernel
theorem dX8_init_119 : decode cX8_init 119 = .ok (.iconst 0, 1) := by decide +kernel
theorem dX8_init_120 : decode cX8_init 120 = .ok (.ldc 54, 2) := by decide +kernel
theorem dX8_init_122 : decode cX8_init 122 = .ok (.aastore, 1) := by decide +kernel
theorem dX8_init_123 : decode cX8_init 123 = .ok (.dup, 1) := by decide +kernel
theorem dX8_init_124 : decode cX8_init 124 = .ok (.iconst 1, 1) := by decide +kernel
theorem dX8_init_125 : decode cX8_init 125 = .ok (.ldc 56, 2) := by decide +kernel
theorem dX8_init_127 : decode cX8_init 127 = .ok (.aastore, 1) := by decide +kernel
theorem dX8_init_128 : decode cX8_init 128 = .ok (.dup, 1) := by decide +kernel
theorem dX8_init_129 : decode cX8_init 129 = .ok (.iconst 2, 1) := by decide +kernel
theorem dX8_init_130 : decode cX8_init 130 = .ok (.ldc 58, 2) := by decide +kernel
theorem dX8_init_132 : decode cX8_init 132 = .ok (.aastore, 1) := by decide +kernel
theorem dX8_init_133 : decode cX8_init 133 = .ok (.dup, 1) := by decide +kernel
theorem dX8_init_134 : decode cX8_init 134 = .ok (.iconst 3, 1) := by decide +kernel
theorem dX8_init_135 : decode cX8_init 135 = .ok (.ldc 60, 2) := by decide +kernel
theorem dX8_init_137 : decode cX8_init 137 = .ok (.aastore, 1) := by decide +kernel
theorem dX8_init_138 : decode cX8_init 138 = .ok (.dup, 1) := by decide +kernel
theorem dX8_init_139 : decode cX8_init 139 = .ok (.iconst 4, 1) := by decide +kernel
theorem dX8_init_140 : decode cX8_init 140 = .ok (.ldc 62, 2) := by decide +kernel
theorem dX8_init_142 : decode cX8_init 142 = .ok (.aastore, 1) := by decide +kernel
theorem dX8_init_143 : decode cX8_init 143 = .ok (.dup, 1) := by decide +kernel
theorem dX8_init_144 : decode cX8_init 144 = .ok (.iconst 5, 1) := by decide +kernel
theorem dX8_init_145 : decode cX8_init 145 = .ok (.ldc 64, 2) := by decide +kernel
theorem dX8_init_147 : decode cX8_init 147 = .ok (.aastore, 1) := by decide +kernel
theorem dX8_init_148 : decode cX8_init 148 = .ok (.putfield 66, 3) := by decide +kernel
theorem dX8_init_151 : decode cX8_init 151 = .ok (.aload_n 0, 1) := by decide +kernel
theorem dX8_init_152 : decode cX8_init 152 = .ok (.getfield 7, 3) := by decide +kernel
theorem dX8_init_155 : decode cX8_init 155 = .ok (.iconst 0, 1) := by decide +kernel
theorem dX8_init_156 : decode cX8_init 156 = .ok (.iconst 1, 1) := by decide +kernel
theorem dX8_init_157 : decode cX8_init 157 = .ok (.iastore, 1) := by decide +kernel
theorem dX8_init_158 : decode cX8_init 158 = .ok (.iconst 0, 1) := by decide +kernel
theorem dX8_init_159 : decode cX8_init 159 = .ok (.istore_n 1, 1) := by decide +kernel
theorem dX8_init_160 : decode cX8_init 160 = .ok (.iload_n 1, 1) := by decide +kernel
theorem dX8_init_161 : decode cX8_init 161 = .ok (.iconst 3, 1) := by decide +kernel
theorem dX8_init_162 : decode cX8_init 162 = .ok (.if_icmp .ge 18, 3) := by decide +kernel
theorem dX8_init_165 : decode cX8_init 165 = .ok (.aload_n 0, 1) := by decide +kernel
theorem dX8_init_166 : decode cX8_init 166 = .ok (.getfield 7, 3) := by decide +kernel
theorem dX8_init_169 : decode cX8_init 169 = .ok (.iconst 1, 1) := by decide +kernel
theorem dX8_init_170 : decode cX8_init 170 = .ok (.iload_n 1, 1) := by decide +kernel
theorem dX8_init_171 : decode cX8_init 171 = .ok (.iadd, 1) := by decide +kernel
theorem dX8_init_172 : decode cX8_init 172 = .ok (.iconst 1, 1) := by decide +kernel
theorem dX8_init_173 : decode cX8_init 173 = .ok (.iastore, 1) := by decide +kernel
theorem dX8_init_174 : decode cX8_init 174 = .ok (.iinc 1 1, 3) := by decide +kernel
theorem dX8_init_177 : decode cX8_init 177 = .ok (.goto (-17), 3) := by decide +kernel
theorem dX8_init_180 : decode cX8_init 180 = .ok (.aload_n 0, 1) := by decide +kernel
theorem dX8_init_181 : decode cX8_init 181 = .ok (.getfield 7, 3) := by decide +kernel
theorem dX8_init_184 : decode cX8_init 184 = .ok (.iconst 4, 1) := by decide +kernel
theorem dX8_init_185 : decode cX8_init 185 = .ok (.bipush 60, 2) := by decide +kernel
theorem dX8_init_187 : decode cX8_init 187 = .ok (.iastore, 1) := by decide +kernel
theorem dX8_init_188 : decode cX8_init 188 = .ok (.aload_n 0, 1) := by decide +kernel
theorem dX8_init_189 : decode cX8_init 189 = .ok (.getfield 7, 3) := by decide +kernel
theorem dX8_init_192 : decode cX8_init 192 = .ok (.iconst 5, 1) := by decide +kernel
theorem dX8_init_193 : decode cX8_init 193 = .ok (.iconst 2, 1) := by decide +kernel
theorem dX8_init_194 : decode cX8_init 194 = .ok (.iastore, 1) := by decide +kernel
theorem dX8_init_195 : decode cX8_init 195 = .ok (.aload_n 0, 1) := by decide +kernel
theorem dX8_init_196 : decode cX8_init 196 = .ok (.getfield 7, 3) := by decide +kernel
theorem dX8_init_199 : decode cX8_init 199 = .ok (.bipush 6, 2) := by decide +kernel
theorem dX8_init_201 : decode cX8_init 201 = .ok (.iconst 5, 1) := by decide +kernel
theorem dX8_init_202 : decode cX8_init 202 = .ok (.iastore, 1) := by decide +kernel
theorem dX8_init_203 : decode cX8_init 203 = .ok (.iconst 0, 1) := by decide +kernel
theorem dX8_init_204 : decode cX8_init 204 = .ok (.istore_n 1, 1) := by decide +kernel
theorem dX8_init_205 : decode cX8_init 205 = .ok (.iload_n 1, 1) := by decide +kernel
theorem dX8_init_206 : decode cX8_init 206 = .ok (.bipush 8, 2) := by decide +kernel
theorem dX8_init_208 : decode cX8_init 208 = .ok (.if_icmp .ge 19, 3) := by decide +kernel
theorem dX8_init_211 : decode cX8_init 211 = .ok (.aload_n 0, 1) := by decide +kernel
theorem dX8_init_212 : decode cX8_init 212 = .ok (.getfield 7, 3) := by decide +kernel
theorem dX8_init_215 : decode cX8_init 215 = .ok (.bipush 8, 2) := by decide +kernel
theorem dX8_init_217 : decode cX8_init 217 = .ok (.iload_n 1, 1) := by decide +kernel
theorem dX8_init_218 : decode cX8_init 218 = .ok (.iadd, 1) := by decide +kernel
theorem dX8_init_219 : decode cX8_init 219 = .ok (.iconst 1, 1) := by decide +kernel
theorem dX8_init_220 : decode cX8_init 220 = .ok (.iastore, 1) := by decide +kernel
theorem dX8_init_221 : decode cX8_init 221 = .ok (.iinc 1 1, 3) := by decide +kernel
theorem dX8_init_224 : decode cX8_init 224 = .ok (.goto (-19), 3) := by decide +kernel
theorem dX8_init_227 : decode cX8_init 227 = .ok (.return_, 1) := by decide +kernel
theorem dX8_thrown_0 : decode cX8_thrown 0 = .ok (.aload_n 0, 1) := by decide +kernel
theorem dX8_thrown_1 : decode cX8_thrown 1 = .ok (.getfield 70, 3) := by decide +kernel
theorem dX8_thrown_4 : decode cX8_thrown 4 = .ok (.ireturn, 1) := by decide +kernel
theorem dX8_fails_0 : decode cX8_fails 0 = .ok (.aload_n 0, 1) := by decide +kernel
theorem dX8_fails_1 : decode cX8_fails 1 = .ok (.iload_n 1, 1) := by decide +kernel
theorem dX8_fails_2 : decode cX8_fails 2 = .ok (.putfield 70, 3) := by decide +kernel
theorem dX8_fails_5 : decode cX8_fails 5 = .ok (.iconst 0, 1) := by decide +kernel
theorem dX8_fails_6 : decode cX8_fails 6 = .ok (.ireturn, 1) := by decide +kernel
theorem dX8_done_0 : decode cX8_done 0 = .ok (.aload_n 0, 1) := by decide +kernel
theorem dX8_done_1 : decode cX8_done 1 = .ok (.iconst 0, 1) := by decide +kernel
theorem dX8_done_2 : decode cX8_done 2 = .ok (.putfield 70, 3) := by decide +kernel
theorem dX8_done_5 : decode cX8_done 5 = .ok (.iload_n 1, 1) := by decide +kernel
theorem dX8_done_6 : decode cX8_done 6 = .ok (.ireturn, 1) := by decide +kernel
theorem dX8_in_0 : decode cX8_in 0 = .ok (.iload_n 0, 1) := by decide +kernel
theorem dX8_in_1 : decode cX8_in 1 = .ok (.iload_n 1, 1) := by decide +kernel
theorem dX8_in_2 : decode cX8_in 2 = .ok (.if_icmp .lt 12, 3) := by decide +kernel
theorem dX8_in_5 : decode cX8_in 5 = .ok (.iload_n 0, 1) := by decide +kernel
theorem dX8_in_6 : decode cX8_in 6 = .ok (.iload_n 2, 1) := by decide +kernel
theorem dX8_in_7 : decode cX8_in 7 = .ok (.if_icmp .gt 7, 3) := by decide +kernel
theorem dX8_in_10 : decode cX8_in 10 = .ok (.iconst 1, 1) := by decide +kernel
theorem dX8_in_11 : decode cX8_in 11 = .ok (.goto 4, 3) := by decide +kernel
theorem dX8_in_14 : decode cX8_in 14 = .ok (.iconst 0, 1) := by decide +kernel
theorem dX8_in_15 : decode cX8_in 15 = .ok (.ireturn, 1) := by decide +kernel
theorem dX8_isTask_0 : decode cX8_isTask 0 = .ok (.iload_n 1, 1) := by decide +kernel
theorem dX8_isTask_1 : decode cX8_isTask 1 = .ok (.iconst 0, 1) := by decide +kernel
theorem dX8_isTask_2 : decode cX8_isTask 2 = .ok (.aload_n 0, 1) := by decide +kernel
theorem dX8_isTask_3 : decode cX8_isTask 3 = .ok (.getfield 7, 3) := by decide +kernel
theorem dX8_isTask_6 : decode cX8_isTask 6 = .ok (.bipush 16, 2) := by decide +kernel
theorem dX8_isTask_8 : decode cX8_isTask 8 = .ok (.iaload, 1) := by decide +kernel
theorem dX8_isTask_9 : decode cX8_isTask 9 = .ok (.iconst 1, 1) := by decide +kernel
theorem dX8_isTask_10 : decode cX8_isTask 10 = .ok (.isub, 1) := by decide +kernel
theorem dX8_isTask_11 : decode cX8_isTask 11 = .ok (.invokestatic 74, 3) := by decide +kernel
theorem dX8_isTask_14 : decode cX8_isTask 14 = .ok (.ireturn, 1) := by decide +kernel
theorem dX8_isStation_0 : decode cX8_isStation 0 = .ok (.iload_n 0, 1) := by decide +kernel
theorem dX8_isStation_1 : decode cX8_isStation 1 = .ok (.iconst 0, 1) := by decide +kernel
theorem dX8_isStation_2 : decode cX8_isStation 2 = .ok (.bipush 7, 2) := by decide +kernel
theorem dX8_isStation_4 : decode cX8_isStation 4 = .ok (.invokestatic 74, 3) := by decide +kernel
theorem dX8_isStation_7 : decode cX8_isStation 7 = .ok (.ireturn, 1) := by decide +kernel
theorem dX8_of_0 : decode cX8_of 0 = .ok (.aload_n 0, 1) := by decide +kernel
theorem dX8_of_1 : decode cX8_of 1 = .ok (.getfield 7, 3) := by decide +kernel
theorem dX8_of_4 : decode cX8_of 4 = .ok (.bipush 17, 2) := by decide +kernel
theorem dX8_of_6 : decode cX8_of 6 = .ok (.iconst 5, 1) := by decide +kernel
theorem dX8_of_7 : decode cX8_of 7 = .ok (.iload_n 1, 1) := by decide +kernel
theorem dX8_of_8 : decode cX8_of 8 = .ok (.imul, 1) := by decide +kernel
theorem dX8_of_9 : decode cX8_of 9 = .ok (.iadd, 1) := by decide +kernel
theorem dX8_of_10 : decode cX8_of 10 = .ok (.iload_n 2, 1) := by decide +kernel
theorem dX8_of_11 : decode cX8_of 11 = .ok (.iadd, 1) := by decide +kernel
theorem dX8_of_12 : decode cX8_of 12 = .ok (.iaload, 1) := by decide +kernel
theorem dX8_of_13 : decode cX8_of 13 = .ok (.ireturn, 1) := by decide +kernel
theorem dX8_sets_0 : decode cX8_sets 0 = .ok (.aload_n 0, 1) := by decide +kernel
theorem dX8_sets_1 : decode cX8_sets 1 = .ok (.getfield 7, 3) := by decide +kernel
theorem dX8_sets_4 : decode cX8_sets 4 = .ok (.bipush 17, 2) := by decide +kernel
theorem dX8_sets_6 : decode cX8_sets 6 = .ok (.iconst 5, 1) := by decide +kernel
theorem dX8_sets_7 : decode cX8_sets 7 = .ok (.iload_n 1, 1) := by decide +kernel
theorem dX8_sets_8 : decode cX8_sets 8 = .ok (.imul, 1) := by decide +kernel
theorem dX8_sets_9 : decode cX8_sets 9 = .ok (.iadd, 1) := by decide +kernel
theorem dX8_sets_10 : decode cX8_sets 10 = .ok (.iload_n 2, 1) := by decide +kernel
theorem dX8_sets_11 : decode cX8_sets 11 = .ok (.iadd, 1) := by decide +kernel
theorem dX8_sets_12 : decode cX8_sets 12 = .ok (.iload_n 3, 1) := by decide +kernel
theorem dX8_sets_13 : decode cX8_sets 13 = .ok (.iastore, 1) := by decide +kernel
theorem dX8_sets_14 : decode cX8_sets 14 = .ok (.return_, 1) := by decide +kernel
theorem dX8_remembers_0 : decode cX8_remembers 0 = .ok (.iconst 0, 1) := by decide +kernel
theorem dX8_remembers_1 : decode cX8_remembers 1 = .ok (.istore_n 1, 1) := by decide +kernel
theorem dX8_remembers_2 : decode cX8_remembers 2 = .ok (.iload_n 1, 1) := by decide +kernel
theorem dX8_remembers_3 : decode cX8_remembers 3 = .ok (.bipush 113, 2) := by decide +kernel
theorem dX8_remembers_5 : decode cX8_remembers 5 = .ok (.if_icmp .ge 21, 3) := by decide +kernel
theorem dX8_remembers_8 : decode cX8_remembers 8 = .ok (.aload_n 0, 1) := by decide +kernel
theorem dX8_remembers_9 : decode cX8_remembers 9 = .ok (.getfield 13, 3) := by decide +kernel
theorem dX8_remembers_12 : decode cX8_remembers 12 = .ok (.iload_n 1, 1) := by decide +kernel
theorem dX8_remembers_13 : decode cX8_remembers 13 = .ok (.aload_n 0, 1) := by decide +kernel
theorem dX8_remembers_14 : decode cX8_remembers 14 = .ok (.getfield 7, 3) := by decide +kernel
theorem dX8_remembers_17 : decode cX8_remembers 17 = .ok (.iload_n 1, 1) := by decide +kernel
theorem dX8_remembers_18 : decode cX8_remembers 18 = .ok (.iaload, 1) := by decide +kernel
theorem dX8_remembers_19 : decode cX8_remembers 19 = .ok (.iastore, 1) := by decide +kernel
theorem dX8_remembers_20 : decode cX8_remembers 20 = .ok (.iinc 1 1, 3) := by decide +kernel
theorem dX8_remembers_23 : decode cX8_remembers 23 = .ok (.goto (-21), 3) := by decide +kernel
theorem dX8_remembers_26 : decode cX8_remembers 26 = .ok (.return_, 1) := by decide +kernel
theorem dX8_brings_0 : decode cX8_brings 0 = .ok (.iconst 0, 1) := by decide +kernel
theorem dX8_brings_1 : decode cX8_brings 1 = .ok (.istore_n 1, 1) := by decide +kernel
theorem dX8_brings_2 : decode cX8_brings 2 = .ok (.iload_n 1, 1) := by decide +kernel
theorem dX8_brings_3 : decode cX8_brings 3 = .ok (.bipush 113, 2) := by decide +kernel
theorem dX8_brings_5 : decode cX8_brings 5 = .ok (.if_icmp .ge 21, 3) := by decide +kernel
theorem dX8_brings_8 : decode cX8_brings 8 = .ok (.aload_n 0, 1) := by decide +kernel
theorem dX8_brings_9 : decode cX8_brings 9 = .ok (.getfield 7, 3) := by decide +kernel
theorem dX8_brings_12 : decode cX8_brings 12 = .ok (.iload_n 1, 1) := by decide +kernel
theorem dX8_brings_13 : decode cX8_brings 13 = .ok (.aload_n 0, 1) := by decide +kernel
theorem dX8_brings_14 : decode cX8_brings 14 = .ok (.getfield 13, 3) := by decide +kernel
theorem dX8_brings_17 : decode cX8_brings 17 = .ok (.iload_n 1, 1) := by decide +kernel
theorem dX8_brings_18 : decode cX8_brings 18 = .ok (.iaload, 1) := by decide +kernel
theorem dX8_brings_19 : decode cX8_brings 19 = .ok (.iastore, 1) := by decide +kernel
theorem dX8_brings_20 : decode cX8_brings 20 = .ok (.iinc 1 1, 3) := by decide +kernel
theorem dX8_brings_23 : decode cX8_brings 23 = .ok (.goto (-21), 3) := by decide +kernel
theorem dX8_brings_26 : decode cX8_brings 26 = .ok (.return_, 1) := by decide +kernel
theorem dX8_keeps_0 : decode cX8_keeps 0 = .ok (.aload_n 0, 1) := by decide +kernel
theorem dX8_keeps_1 : decode cX8_keeps 1 = .ok (.getfield 78, 3) := by decide +kernel
theorem dX8_keeps_4 : decode cX8_keeps 4 = .ok (.bipush 8, 2) := by decide +kernel
theorem dX8_keeps_6 : decode cX8_keeps 6 = .ok (.if_icmp .ne 43, 3) := by decide +kernel
theorem dX8_keeps_9 : decode cX8_keeps 9 = .ok (.iconst 0, 1) := by decide +kernel
theorem dX8_keeps_10 : decode cX8_keeps 10 = .ok (.istore_n 1, 1) := by decide +kernel
theorem dX8_keeps_11 : decode cX8_keeps 11 = .ok (.iload_n 1, 1) := by decide +kernel
theorem dX8_keeps_12 : decode cX8_keeps 12 = .ok (.sipush 791, 3) := by decide +kernel
theorem dX8_keeps_15 : decode cX8_keeps 15 = .ok (.if_icmp .ge 24, 3) := by decide +kernel
theorem dX8_keeps_18 : decode cX8_keeps 18 = .ok (.aload_n 0, 1) := by decide +kernel
theorem dX8_keeps_19 : decode cX8_keeps 19 = .ok (.getfield 16, 3) := by decide +kernel
theorem dX8_keeps_22 : decode cX8_keeps 22 = .ok (.iload_n 1, 1) := by decide +kernel
theorem dX8_keeps_23 : decode cX8_keeps 23 = .ok (.aload_n 0, 1) := by decide +kernel
theorem dX8_keeps_24 : decode cX8_keeps 24 = .ok (.getfield 16, 3) := by decide +kernel
theorem dX8_keeps_27 : decode cX8_keeps 27 = .ok (.iload_n 1, 1) := by decide +kernel
theorem dX8_keeps_28 : decode cX8_keeps 28 = .ok (.bipush 113, 2) := by decide +kernel
theorem dX8_keeps_30 : decode cX8_keeps 30 = .ok (.iadd, 1) := by decide +kernel
theorem dX8_keeps_31 : decode cX8_keeps 31 = .ok (.iaload, 1) := by decide +kernel
theorem dX8_keeps_32 : decode cX8_keeps 32 = .ok (.iastore, 1) := by decide +kernel
theorem dX8_keeps_33 : decode cX8_keeps 33 = .ok (.iinc 1 1, 3) := by decide +kernel
theorem dX8_keeps_36 : decode cX8_keeps 36 = .ok (.goto (-25), 3) := by decide +kernel
theorem dX8_keeps_39 : decode cX8_keeps 39 = .ok (.aload_n 0, 1) := by decide +kernel
theorem dX8_keeps_40 : decode cX8_keeps 40 = .ok (.dup, 1) := by decide +kernel
theorem dX8_keeps_41 : decode cX8_keeps 41 = .ok (.getfield 78, 3) := by decide +kernel
theorem dX8_keeps_44 : decode cX8_keeps 44 = .ok (.iconst 1, 1) := by decide +kernel
theorem dX8_keeps_45 : decode cX8_keeps 45 = .ok (.isub, 1) := by decide +kernel
theorem dX8_keeps_46 : decode cX8_keeps 46 = .ok (.putfield 78, 3) := by decide +kernel
theorem dX8_keeps_49 : decode cX8_keeps 49 = .ok (.iconst 0, 1) := by decide +kernel
theorem dX8_keeps_50 : decode cX8_keeps 50 = .ok (.istore_n 1, 1) := by decide +kernel
theorem dX8_keeps_51 : decode cX8_keeps 51 = .ok (.iload_n 1, 1) := by decide +kernel
theorem dX8_keeps_52 : decode cX8_keeps 52 = .ok (.bipush 113, 2) := by decide +kernel
theorem dX8_keeps_54 : decode cX8_keeps 54 = .ok (.if_icmp .ge 29, 3) := by decide +kernel
theorem dX8_keeps_57 : decode cX8_keeps 57 = .ok (.aload_n 0, 1) := by decide +kernel
theorem dX8_keeps_58 : decode cX8_keeps 58 = .ok (.getfield 16, 3) := by decide +kernel
theorem dX8_keeps_61 : decode cX8_keeps 61 = .ok (.bipush 113, 2) := by decide +kernel
theorem dX8_keeps_63 : decode cX8_keeps 63 = .ok (.aload_n 0, 1) := by decide +kernel
theorem dX8_keeps_64 : decode cX8_keeps 64 = .ok (.getfield 78, 3) := by decide +kernel
theorem dX8_keeps_67 : decode cX8_keeps 67 = .ok (.imul, 1) := by decide +kernel
theorem dX8_keeps_68 : decode cX8_keeps 68 = .ok (.iload_n 1, 1) := by decide +kernel
theorem dX8_keeps_69 : decode cX8_keeps 69 = .ok (.iadd, 1) := by decide +kernel
theorem dX8_keeps_70 : decode cX8_keeps 70 = .ok (.aload_n 0, 1) := by decide +kernel
theorem dX8_keeps_71 : decode cX8_keeps 71 = .ok (.getfield 13, 3) := by decide +kernel
theorem dX8_keeps_74 : decode cX8_keeps 74 = .ok (.iload_n 1, 1) := by decide +kernel
theorem dX8_keeps_75 : decode cX8_keeps 75 = .ok (.iaload, 1) := by decide +kernel
theorem dX8_keeps_76 : decode cX8_keeps 76 = .ok (.iastore, 1) := by decide +kernel
theorem dX8_keeps_77 : decode cX8_keeps 77 = .ok (.iinc 1 1, 3) := by decide +kernel
theorem dX8_keeps_80 : decode cX8_keeps 80 = .ok (.goto (-29), 3) := by decide +kernel
theorem dX8_keeps_83 : decode cX8_keeps 83 = .ok (.aload_n 0, 1) := by decide +kernel
theorem dX8_keeps_84 : decode cX8_keeps 84 = .ok (.dup, 1) := by decide +kernel
theorem dX8_keeps_85 : decode cX8_keeps 85 = .ok (.getfield 78, 3) := by decide +kernel
theorem dX8_keeps_88 : decode cX8_keeps 88 = .ok (.iconst 1, 1) := by decide +kernel
theorem dX8_keeps_89 : decode cX8_keeps 89 = .ok (.iadd, 1) := by decide +kernel
theorem dX8_keeps_90 : decode cX8_keeps 90 = .ok (.putfield 78, 3) := by decide +kernel
theorem dX8_keeps_93 : decode cX8_keeps 93 = .ok (.return_, 1) := by decide +kernel
theorem dX8_changed_0 : decode cX8_changed 0 = .ok (.aload_n 0, 1) := by decide +kernel
theorem dX8_changed_1 : decode cX8_changed 1 = .ok (.getfield 70, 3) := by decide +kernel
theorem dX8_changed_4 : decode cX8_changed 4 = .ok (.ifCond .ne 7, 3) := by decide +kernel
theorem dX8_changed_7 : decode cX8_changed 7 = .ok (.aload_n 0, 1) := by decide +kernel
theorem dX8_changed_8 : decode cX8_changed 8 = .ok (.invokevirtual 81, 3) := by decide +kernel
theorem dX8_changed_11 : decode cX8_changed 11 = .ok (.iload_n 1, 1) := by decide +kernel
theorem dX8_changed_12 : decode cX8_changed 12 = .ok (.ireturn, 1) := by decide +kernel
theorem dX8_setModels_0 : decode cX8_setModels 0 = .ok (.aload_n 0, 1) := by decide +kernel
theorem dX8_setModels_1 : decode cX8_setModels 1 = .ok (.invokevirtual 84, 3) := by decide +kernel
theorem dX8_setModels_4 : decode cX8_setModels 4 = .ok (.aload_n 0, 1) := by decide +kernel
theorem dX8_setModels_5 : decode cX8_setModels 5 = .ok (.getfield 7, 3) := by decide +kernel
theorem dX8_setModels_8 : decode cX8_setModels 8 = .ok (.iconst 0, 1) := by decide +kernel
theorem dX8_setModels_9 : decode cX8_setModels 9 = .ok (.iaload, 1) := by decide +kernel
theorem dX8_setModels_10 : decode cX8_setModels 10 = .ok (.istore_n 2, 1) := by decide +kernel
theorem dX8_setModels_11 : decode cX8_setModels 11 = .ok (.iload_n 1, 1) := by decide +kernel
theorem dX8_setModels_12 : decode cX8_setModels 12 = .ok (.iconst 1, 1) := by decide +kernel
theorem dX8_setModels_13 : decode cX8_setModels 13 = .ok (.iconst 3, 1) := by decide +kernel
theorem dX8_setModels_14 : decode cX8_setModels 14 = .ok (.invokestatic 74, 3) := by decide +kernel
theorem dX8_setModels_17 : decode cX8_setModels 17 = .ok (.ifCond .ne 9, 3) := by decide +kernel
theorem dX8_setModels_20 : decode cX8_setModels 20 = .ok (.aload_n 0, 1) := by decide +kernel
theorem dX8_setModels_21 : decode cX8_setModels 21 = .ok (.iconst 1, 1) := by decide +kernel
theorem dX8_setModels_22 : decode cX8_setModels 22 = .ok (.invokevirtual 87, 3) := by decide +kernel
theorem dX8_setModels_25 : decode cX8_setModels 25 = .ok (.ireturn, 1) := by decide +kernel
theorem dX8_setModels_26 : decode cX8_setModels 26 = .ok (.aload_n 0, 1) := by decide +kernel
theorem dX8_setModels_27 : decode cX8_setModels 27 = .ok (.getfield 7, 3) := by decide +kernel
theorem dX8_setModels_30 : decode cX8_setModels 30 = .ok (.iconst 0, 1) := by decide +kernel
theorem dX8_setModels_31 : decode cX8_setModels 31 = .ok (.iload_n 1, 1) := by decide +kernel
theorem dX8_setModels_32 : decode cX8_setModels 32 = .ok (.iastore, 1) := by decide +kernel
theorem dX8_setModels_33 : decode cX8_setModels 33 = .ok (.aload_n 0, 1) := by decide +kernel
theorem dX8_setModels_34 : decode cX8_setModels 34 = .ok (.aload_n 0, 1) := by decide +kernel
theorem dX8_setModels_35 : decode cX8_setModels 35 = .ok (.iload_n 2, 1) := by decide +kernel
theorem dX8_setModels_36 : decode cX8_setModels 36 = .ok (.invokevirtual 91, 3) := by decide +kernel
theorem dX8_setModels_39 : decode cX8_setModels 39 = .ok (.invokevirtual 94, 3) := by decide +kernel
theorem dX8_setModels_42 : decode cX8_setModels 42 = .ok (.ireturn, 1) := by decide +kernel
theorem dX8_setDemand_0 : decode cX8_setDemand 0 = .ok (.iload_n 1, 1) := by decide +kernel
theorem dX8_setDemand_1 : decode cX8_setDemand 1 = .ok (.iconst 0, 1) := by decide +kernel
theorem dX8_setDemand_2 : decode cX8_setDemand 2 = .ok (.iconst 2, 1) := by decide +kernel
theorem dX8_setDemand_3 : decode cX8_setDemand 3 = .ok (.invokestatic 74, 3) := by decide +kernel
theorem dX8_setDemand_6 : decode cX8_setDemand 6 = .ok (.ifCond .eq 13, 3) := by decide +kernel
theorem dX8_setDemand_9 : decode cX8_setDemand 9 = .ok (.iload_n 2, 1) := by decide +kernel
theorem dX8_setDemand_10 : decode cX8_setDemand 10 = .ok (.iconst 1, 1) := by decide +kernel
theorem dX8_setDemand_11 : decode cX8_setDemand 11 = .ok (.bipush 9, 2) := by decide +kernel
theorem dX8_setDemand_13 : decode cX8_setDemand 13 = .ok (.invokestatic 74, 3) := by decide +kernel
theorem dX8_setDemand_16 : decode cX8_setDemand 16 = .ok (.ifCond .ne 22, 3) := by decide +kernel
theorem dX8_setDemand_19 : decode cX8_setDemand 19 = .ok (.aload_n 0, 1) := by decide +kernel
theorem dX8_setDemand_20 : decode cX8_setDemand 20 = .ok (.iload_n 1, 1) := by decide +kernel
theorem dX8_setDemand_21 : decode cX8_setDemand 21 = .ok (.iconst 0, 1) := by decide +kernel
theorem dX8_setDemand_22 : decode cX8_setDemand 22 = .ok (.iconst 2, 1) := by decide +kernel
theorem dX8_setDemand_23 : decode cX8_setDemand 23 = .ok (.invokestatic 74, 3) := by decide +kernel
theorem dX8_setDemand_26 : decode cX8_setDemand 26 = .ok (.ifCond .ne 7, 3) := by decide +kernel
theorem dX8_setDemand_29 : decode cX8_setDemand 29 = .ok (.iconst 1, 1) := by decide +kernel
theorem dX8_setDemand_30 : decode cX8_setDemand 30 = .ok (.goto 4, 3) := by decide +kernel
theorem dX8_setDemand_33 : decode cX8_setDemand 33 = .ok (.iconst 2, 1) := by decide +kernel
theorem dX8_setDemand_34 : decode cX8_setDemand 34 = .ok (.invokevirtual 87, 3) := by decide +kernel
theorem dX8_setDemand_37 : decode cX8_setDemand 37 = .ok (.ireturn, 1) := by decide +kernel
theorem dX8_setDemand_38 : decode cX8_setDemand 38 = .ok (.aload_n 0, 1) := by decide +kernel
theorem dX8_setDemand_39 : decode cX8_setDemand 39 = .ok (.invokevirtual 84, 3) := by decide +kernel
theorem dX8_setDemand_42 : decode cX8_setDemand 42 = .ok (.aload_n 0, 1) := by decide +kernel
theorem dX8_setDemand_43 : decode cX8_setDemand 43 = .ok (.getfield 7, 3) := by decide +kernel
theorem dX8_setDemand_46 : decode cX8_setDemand 46 = .ok (.iconst 1, 1) := by decide +kernel
theorem dX8_setDemand_47 : decode cX8_setDemand 47 = .ok (.iload_n 1, 1) := by decide +kernel
theorem dX8_setDemand_48 : decode cX8_setDemand 48 = .ok (.iadd, 1) := by decide +kernel
theorem dX8_setDemand_49 : decode cX8_setDemand 49 = .ok (.iaload, 1) := by decide +kernel
theorem dX8_setDemand_50 : decode cX8_setDemand 50 = .ok (.istore_n 3, 1) := by decide +kernel
theorem dX8_setDemand_51 : decode cX8_setDemand 51 = .ok (.aload_n 0, 1) := by decide +kernel
theorem dX8_setDemand_52 : decode cX8_setDemand 52 = .ok (.getfield 7, 3) := by decide +kernel
theorem dX8_setDemand_55 : decode cX8_setDemand 55 = .ok (.iconst 1, 1) := by decide +kernel
theorem dX8_setDemand_56 : decode cX8_setDemand 56 = .ok (.iload_n 1, 1) := by decide +kernel
theorem dX8_setDemand_57 : decode cX8_setDemand 57 = .ok (.iadd, 1) := by decide +kernel
theorem dX8_setDemand_58 : decode cX8_setDemand 58 = .ok (.iload_n 2, 1) := by decide +kernel
theorem dX8_setDemand_59 : decode cX8_setDemand 59 = .ok (.iastore, 1) := by decide +kernel
theorem dX8_setDemand_60 : decode cX8_setDemand 60 = .ok (.aload_n 0, 1) := by decide +kernel
theorem dX8_setDemand_61 : decode cX8_setDemand 61 = .ok (.aload_n 0, 1) := by decide +kernel
theorem dX8_setDemand_62 : decode cX8_setDemand 62 = .ok (.iload_n 3, 1) := by decide +kernel
theorem dX8_setDemand_63 : decode cX8_setDemand 63 = .ok (.invokevirtual 91, 3) := by decide +kernel
theorem dX8_setDemand_66 : decode cX8_setDemand 66 = .ok (.invokevirtual 94, 3) := by decide +kernel
theorem dX8_setDemand_69 : decode cX8_setDemand 69 = .ok (.ireturn, 1) := by decide +kernel
theorem dX8_isRule_0 : decode cX8_isRule 0 = .ok (.iload_n 0, 1) := by decide +kernel
theorem dX8_isRule_1 : decode cX8_isRule 1 = .ok (.tableswitch 52 0 2 #[27, 37, 45], 27) := by decide +kernel
theorem dX8_isRule_28 : decode cX8_isRule 28 = .ok (.iload_n 1, 1) := by decide +kernel
theorem dX8_isRule_29 : decode cX8_isRule 29 = .ok (.bipush 10, 2) := by decide +kernel
theorem dX8_isRule_31 : decode cX8_isRule 31 = .ok (.sipush 999, 3) := by decide +kernel
theorem dX8_isRule_34 : decode cX8_isRule 34 = .ok (.invokestatic 74, 3) := by decide +kernel
theorem dX8_isRule_37 : decode cX8_isRule 37 = .ok (.ireturn, 1) := by decide +kernel
theorem dX8_isRule_38 : decode cX8_isRule 38 = .ok (.iload_n 1, 1) := by decide +kernel
theorem dX8_isRule_39 : decode cX8_isRule 39 = .ok (.iconst 0, 1) := by decide +kernel
theorem dX8_isRule_40 : decode cX8_isRule 40 = .ok (.bipush 20, 2) := by decide +kernel
theorem dX8_isRule_42 : decode cX8_isRule 42 = .ok (.invokestatic 74, 3) := by decide +kernel
theorem dX8_isRule_45 : decode cX8_isRule 45 = .ok (.ireturn, 1) := by decide +kernel
theorem dX8_isRule_46 : decode cX8_isRule 46 = .ok (.iload_n 1, 1) := by decide +kernel
theorem dX8_isRule_47 : decode cX8_isRule 47 = .ok (.iconst 1, 1) := by decide +kernel
theorem dX8_isRule_48 : decode cX8_isRule 48 = .ok (.iconst 5, 1) := by decide +kernel
theorem dX8_isRule_49 : decode cX8_isRule 49 = .ok (.invokestatic 74, 3) := by decide +kernel
theorem dX8_isRule_52 : decode cX8_isRule 52 = .ok (.ireturn, 1) := by decide +kernel
theorem dX8_isRule_53 : decode cX8_isRule 53 = .ok (.iload_n 0, 1) := by decide +kernel
theorem dX8_isRule_54 : decode cX8_isRule 54 = .ok (.iconst 3, 1) := by decide +kernel
theorem dX8_isRule_55 : decode cX8_isRule 55 = .ok (.if_icmp .ne 16, 3) := by decide +kernel
theorem dX8_isRule_58 : decode cX8_isRule 58 = .ok (.iload_n 1, 1) := by decide +kernel
theorem dX8_isRule_59 : decode cX8_isRule 59 = .ok (.iconst 0, 1) := by decide +kernel
theorem dX8_isRule_60 : decode cX8_isRule 60 = .ok (.iconst 1, 1) := by decide +kernel
theorem dX8_isRule_61 : decode cX8_isRule 61 = .ok (.invokestatic 74, 3) := by decide +kernel
theorem dX8_isRule_64 : decode cX8_isRule 64 = .ok (.ifCond .eq 7, 3) := by decide +kernel
theorem dX8_isRule_67 : decode cX8_isRule 67 = .ok (.iconst 1, 1) := by decide +kernel
theorem dX8_isRule_68 : decode cX8_isRule 68 = .ok (.goto 4, 3) := by decide +kernel
theorem dX8_isRule_71 : decode cX8_isRule 71 = .ok (.iconst 0, 1) := by decide +kernel
theorem dX8_isRule_72 : decode cX8_isRule 72 = .ok (.ireturn, 1) := by decide +kernel
theorem dX8_setsRule_0 : decode cX8_setsRule 0 = .ok (.iload_n 1, 1) := by decide +kernel
theorem dX8_setsRule_1 : decode cX8_setsRule 1 = .ok (.iload_n 2, 1) := by decide +kernel
theorem dX8_setsRule_2 : decode cX8_setsRule 2 = .ok (.invokestatic 97, 3) := by decide +kernel
theorem dX8_setsRule_5 : decode cX8_setsRule 5 = .ok (.ifCond .ne 9, 3) := by decide +kernel
theorem dX8_setsRule_8 : decode cX8_setsRule 8 = .ok (.aload_n 0, 1) := by decide +kernel
theorem dX8_setsRule_9 : decode cX8_setsRule 9 = .ok (.iconst 1, 1) := by decide +kernel
theorem dX8_setsRule_10 : decode cX8_setsRule 10 = .ok (.invokevirtual 87, 3) := by decide +kernel
theorem dX8_setsRule_13 : decode cX8_setsRule 13 = .ok (.ireturn, 1) := by decide +kernel
theorem dX8_setsRule_14 : decode cX8_setsRule 14 = .ok (.aload_n 0, 1) := by decide +kernel
theorem dX8_setsRule_15 : decode cX8_setsRule 15 = .ok (.getfield 7, 3) := by decide +kernel
theorem dX8_setsRule_18 : decode cX8_setsRule 18 = .ok (.iconst 4, 1) := by decide +kernel
theorem dX8_setsRule_19 : decode cX8_setsRule 19 = .ok (.iload_n 1, 1) := by decide +kernel
theorem dX8_setsRule_20 : decode cX8_setsRule 20 = .ok (.iadd, 1) := by decide +kernel
theorem dX8_setsRule_21 : decode cX8_setsRule 21 = .ok (.iaload, 1) := by decide +kernel
theorem dX8_setsRule_22 : decode cX8_setsRule 22 = .ok (.istore_n 3, 1) := by decide +kernel
theorem dX8_setsRule_23 : decode cX8_setsRule 23 = .ok (.aload_n 0, 1) := by decide +kernel
theorem dX8_setsRule_24 : decode cX8_setsRule 24 = .ok (.getfield 7, 3) := by decide +kernel
theorem dX8_setsRule_27 : decode cX8_setsRule 27 = .ok (.iconst 4, 1) := by decide +kernel
theorem dX8_setsRule_28 : decode cX8_setsRule 28 = .ok (.iload_n 1, 1) := by decide +kernel
theorem dX8_setsRule_29 : decode cX8_setsRule 29 = .ok (.iadd, 1) := by decide +kernel
theorem dX8_setsRule_30 : decode cX8_setsRule 30 = .ok (.iload_n 2, 1) := by decide +kernel
theorem dX8_setsRule_31 : decode cX8_setsRule 31 = .ok (.iastore, 1) := by decide +kernel
theorem dX8_setsRule_32 : decode cX8_setsRule 32 = .ok (.aload_n 0, 1) := by decide +kernel
theorem dX8_setsRule_33 : decode cX8_setsRule 33 = .ok (.iload_n 3, 1) := by decide +kernel
theorem dX8_setsRule_34 : decode cX8_setsRule 34 = .ok (.invokevirtual 91, 3) := by decide +kernel
theorem dX8_setsRule_37 : decode cX8_setsRule 37 = .ok (.ireturn, 1) := by decide +kernel
theorem dX8_setRule_0 : decode cX8_setRule 0 = .ok (.aload_n 0, 1) := by decide +kernel
theorem dX8_setRule_1 : decode cX8_setRule 1 = .ok (.invokevirtual 84, 3) := by decide +kernel
theorem dX8_setRule_4 : decode cX8_setRule 4 = .ok (.aload_n 0, 1) := by decide +kernel
theorem dX8_setRule_5 : decode cX8_setRule 5 = .ok (.aload_n 0, 1) := by decide +kernel
theorem dX8_setRule_6 : decode cX8_setRule 6 = .ok (.iload_n 1, 1) := by decide +kernel
theorem dX8_setRule_7 : decode cX8_setRule 7 = .ok (.iload_n 2, 1) := by decide +kernel
theorem dX8_setRule_8 : decode cX8_setRule 8 = .ok (.invokevirtual 101, 3) := by decide +kernel
theorem dX8_setRule_11 : decode cX8_setRule 11 = .ok (.invokevirtual 94, 3) := by decide +kernel
theorem dX8_setRule_14 : decode cX8_setRule 14 = .ok (.ireturn, 1) := by decide +kernel
theorem dX8_totalDemand_0 : decode cX8_totalDemand 0 = .ok (.iconst 0, 1) := by decide +kernel
theorem dX8_totalDemand_1 : decode cX8_totalDemand 1 = .ok (.istore_n 1, 1) := by decide +kernel
theorem dX8_totalDemand_2 : decode cX8_totalDemand 2 = .ok (.iconst 0, 1) := by decide +kernel
theorem dX8_totalDemand_3 : decode cX8_totalDemand 3 = .ok (.istore_n 2, 1) := by decide +kernel
theorem dX8_totalDemand_4 : decode cX8_totalDemand 4 = .ok (.iload_n 2, 1) := by decide +kernel
theorem dX8_totalDemand_5 : decode cX8_totalDemand 5 = .ok (.aload_n 0, 1) := by decide +kernel
theorem dX8_totalDemand_6 : decode cX8_totalDemand 6 = .ok (.getfield 7, 3) := by decide +kernel
theorem dX8_totalDemand_9 : decode cX8_totalDemand 9 = .ok (.iconst 0, 1) := by decide +kernel
theorem dX8_totalDemand_10 : decode cX8_totalDemand 10 = .ok (.iaload, 1) := by decide +kernel
theorem dX8_totalDemand_11 : decode cX8_totalDemand 11 = .ok (.if_icmp .ge 20, 3) := by decide +kernel
theorem dX8_totalDemand_14 : decode cX8_totalDemand 14 = .ok (.iload_n 1, 1) := by decide +kernel
theorem dX8_totalDemand_15 : decode cX8_totalDemand 15 = .ok (.aload_n 0, 1) := by decide +kernel
theorem dX8_totalDemand_16 : decode cX8_totalDemand 16 = .ok (.getfield 7, 3) := by decide +kernel
theorem dX8_totalDemand_19 : decode cX8_totalDemand 19 = .ok (.iconst 1, 1) := by decide +kernel
theorem dX8_totalDemand_20 : decode cX8_totalDemand 20 = .ok (.iload_n 2, 1) := by decide +kernel
theorem dX8_totalDemand_21 : decode cX8_totalDemand 21 = .ok (.iadd, 1) := by decide +kernel
theorem dX8_totalDemand_22 : decode cX8_totalDemand 22 = .ok (.iaload, 1) := by decide +kernel
theorem dX8_totalDemand_23 : decode cX8_totalDemand 23 = .ok (.iadd, 1) := by decide +kernel
theorem dX8_totalDemand_24 : decode cX8_totalDemand 24 = .ok (.istore_n 1, 1) := by decide +kernel
theorem dX8_totalDemand_25 : decode cX8_totalDemand 25 = .ok (.iinc 2 1, 3) := by decide +kernel
theorem dX8_totalDemand_28 : decode cX8_totalDemand 28 = .ok (.goto (-24), 3) := by decide +kernel
theorem dX8_totalDemand_31 : decode cX8_totalDemand 31 = .ok (.iload_n 1, 1) := by decide +kernel
theorem dX8_totalDemand_32 : decode cX8_totalDemand 32 = .ok (.ireturn, 1) := by decide +kernel
theorem dX8_rule_0 : decode cX8_rule 0 = .ok (.iload_n 1, 1) := by decide +kernel
theorem dX8_rule_1 : decode cX8_rule 1 = .ok (.iconst 0, 1) := by decide +kernel
theorem dX8_rule_2 : decode cX8_rule 2 = .ok (.bipush 8, 2) := by decide +kernel
theorem dX8_rule_4 : decode cX8_rule 4 = .ok (.invokestatic 74, 3) := by decide +kernel
theorem dX8_rule_7 : decode cX8_rule 7 = .ok (.ifCond .ne 9, 3) := by decide +kernel
theorem dX8_rule_10 : decode cX8_rule 10 = .ok (.aload_n 0, 1) := by decide +kernel
theorem dX8_rule_11 : decode cX8_rule 11 = .ok (.iconst 1, 1) := by decide +kernel
theorem dX8_rule_12 : decode cX8_rule 12 = .ok (.invokevirtual 87, 3) := by decide +kernel
theorem dX8_rule_15 : decode cX8_rule 15 = .ok (.ireturn, 1) := by decide +kernel
theorem dX8_rule_16 : decode cX8_rule 16 = .ok (.aload_n 0, 1) := by decide +kernel
theorem dX8_rule_17 : decode cX8_rule 17 = .ok (.iload_n 1, 1) := by decide +kernel
theorem dX8_rule_18 : decode cX8_rule 18 = .ok (.iconst 4, 1) := by decide +kernel
theorem dX8_rule_19 : decode cX8_rule 19 = .ok (.if_icmp .ge 14, 3) := by decide +kernel
theorem dX8_rule_22 : decode cX8_rule 22 = .ok (.aload_n 0, 1) := by decide +kernel
theorem dX8_rule_23 : decode cX8_rule 23 = .ok (.getfield 7, 3) := by decide +kernel
theorem dX8_rule_26 : decode cX8_rule 26 = .ok (.iconst 4, 1) := by decide +kernel
theorem dX8_rule_27 : decode cX8_rule 27 = .ok (.iload_n 1, 1) := by decide +kernel
theorem dX8_rule_28 : decode cX8_rule 28 = .ok (.iadd, 1) := by decide +kernel
theorem dX8_rule_29 : decode cX8_rule 29 = .ok (.iaload, 1) := by decide +kernel
theorem dX8_rule_30 : decode cX8_rule 30 = .ok (.goto 40, 3) := by decide +kernel
theorem dX8_rule_33 : decode cX8_rule 33 = .ok (.iload_n 1, 1) := by decide +kernel
theorem dX8_rule_34 : decode cX8_rule 34 = .ok (.iconst 4, 1) := by decide +kernel
theorem dX8_rule_35 : decode cX8_rule 35 = .ok (.if_icmp .ne 12, 3) := by decide +kernel
theorem dX8_rule_38 : decode cX8_rule 38 = .ok (.aload_n 0, 1) := by decide +kernel
theorem dX8_rule_39 : decode cX8_rule 39 = .ok (.getfield 7, 3) := by decide +kernel
theorem dX8_rule_42 : decode cX8_rule 42 = .ok (.iconst 0, 1) := by decide +kernel
theorem dX8_rule_43 : decode cX8_rule 43 = .ok (.iaload, 1) := by decide +kernel
theorem dX8_rule_44 : decode cX8_rule 44 = .ok (.goto 26, 3) := by decide +kernel
theorem dX8_rule_47 : decode cX8_rule 47 = .ok (.iload_n 1, 1) := by decide +kernel
theorem dX8_rule_48 : decode cX8_rule 48 = .ok (.iconst 5, 1) := by decide +kernel
theorem dX8_rule_49 : decode cX8_rule 49 = .ok (.if_icmp .ne 10, 3) := by decide +kernel
theorem dX8_rule_52 : decode cX8_rule 52 = .ok (.aload_n 0, 1) := by decide +kernel
theorem dX8_rule_53 : decode cX8_rule 53 = .ok (.invokevirtual 105, 3) := by decide +kernel
theorem dX8_rule_56 : decode cX8_rule 56 = .ok (.goto 14, 3) := by decide +kernel
theorem dX8_rule_59 : decode cX8_rule 59 = .ok (.aload_n 0, 1) := by decide +kernel
theorem dX8_rule_60 : decode cX8_rule 60 = .ok (.getfield 7, 3) := by decide +kernel
theorem dX8_rule_63 : decode cX8_rule 63 = .ok (.iconst 1, 1) := by decide +kernel
theorem dX8_rule_64 : decode cX8_rule 64 = .ok (.iload_n 1, 1) := by decide +kernel
theorem dX8_rule_65 : decode cX8_rule 65 = .ok (.iadd, 1) := by decide +kernel
theorem dX8_rule_66 : decode cX8_rule 66 = .ok (.bipush 6, 2) := by decide +kernel
theorem dX8_rule_68 : decode cX8_rule 68 = .ok (.isub, 1) := by decide +kernel
theorem dX8_rule_69 : decode cX8_rule 69 = .ok (.iaload, 1) := by decide +kernel
theorem dX8_rule_70 : decode cX8_rule 70 = .ok (.invokevirtual 91, 3) := by decide +kernel
theorem dX8_rule_73 : decode cX8_rule 73 = .ok (.ireturn, 1) := by decide +kernel
theorem dX8_setCopies_0 : decode cX8_setCopies 0 = .ok (.iload_n 1, 1) := by decide +kernel
theorem dX8_setCopies_1 : decode cX8_setCopies 1 = .ok (.invokestatic 109, 3) := by decide +kernel
theorem dX8_setCopies_4 : decode cX8_setCopies 4 = .ok (.ifCond .eq 12, 3) := by decide +kernel
theorem dX8_setCopies_7 : decode cX8_setCopies 7 = .ok (.iload_n 2, 1) := by decide +kernel
theorem dX8_setCopies_8 : decode cX8_setCopies 8 = .ok (.iconst 1, 1) := by decide +kernel
theorem dX8_setCopies_9 : decode cX8_setCopies 9 = .ok (.iconst 3, 1) := by decide +kernel
theorem dX8_setCopies_10 : decode cX8_setCopies 10 = .ok (.invokestatic 74, 3) := by decide +kernel
theorem dX8_setCopies_13 : decode cX8_setCopies 13 = .ok (.ifCond .ne 20, 3) := by decide +kernel
theorem dX8_setCopies_16 : decode cX8_setCopies 16 = .ok (.aload_n 0, 1) := by decide +kernel
theorem dX8_setCopies_17 : decode cX8_setCopies 17 = .ok (.iload_n 1, 1) := by decide +kernel
theorem dX8_setCopies_18 : decode cX8_setCopies 18 = .ok (.invokestatic 109, 3) := by decide +kernel
theorem dX8_setCopies_21 : decode cX8_setCopies 21 = .ok (.ifCond .ne 7, 3) := by decide +kernel
theorem dX8_setCopies_24 : decode cX8_setCopies 24 = .ok (.iconst 1, 1) := by decide +kernel
theorem dX8_setCopies_25 : decode cX8_setCopies 25 = .ok (.goto 4, 3) := by decide +kernel
theorem dX8_setCopies_28 : decode cX8_setCopies 28 = .ok (.iconst 2, 1) := by decide +kernel
theorem dX8_setCopies_29 : decode cX8_setCopies 29 = .ok (.invokevirtual 87, 3) := by decide +kernel
theorem dX8_setCopies_32 : decode cX8_setCopies 32 = .ok (.ireturn, 1) := by decide +kernel
theorem dX8_setCopies_33 : decode cX8_setCopies 33 = .ok (.aload_n 0, 1) := by decide +kernel
theorem dX8_setCopies_34 : decode cX8_setCopies 34 = .ok (.invokevirtual 84, 3) := by decide +kernel
theorem dX8_setCopies_37 : decode cX8_setCopies 37 = .ok (.aload_n 0, 1) := by decide +kernel
theorem dX8_setCopies_38 : decode cX8_setCopies 38 = .ok (.getfield 7, 3) := by decide +kernel
theorem dX8_setCopies_41 : decode cX8_setCopies 41 = .ok (.bipush 8, 2) := by decide +kernel
theorem dX8_setCopies_43 : decode cX8_setCopies 43 = .ok (.iload_n 1, 1) := by decide +kernel
theorem dX8_setCopies_44 : decode cX8_setCopies 44 = .ok (.iadd, 1) := by decide +kernel
theorem dX8_setCopies_45 : decode cX8_setCopies 45 = .ok (.iaload, 1) := by decide +kernel
theorem dX8_setCopies_46 : decode cX8_setCopies 46 = .ok (.istore_n 3, 1) := by decide +kernel
theorem dX8_setCopies_47 : decode cX8_setCopies 47 = .ok (.aload_n 0, 1) := by decide +kernel
theorem dX8_setCopies_48 : decode cX8_setCopies 48 = .ok (.getfield 7, 3) := by decide +kernel
theorem dX8_setCopies_51 : decode cX8_setCopies 51 = .ok (.bipush 8, 2) := by decide +kernel
theorem dX8_setCopies_53 : decode cX8_setCopies 53 = .ok (.iload_n 1, 1) := by decide +kernel
theorem dX8_setCopies_54 : decode cX8_setCopies 54 = .ok (.iadd, 1) := by decide +kernel
theorem dX8_setCopies_55 : decode cX8_setCopies 55 = .ok (.iload_n 2, 1) := by decide +kernel
theorem dX8_setCopies_56 : decode cX8_setCopies 56 = .ok (.iastore, 1) := by decide +kernel
theorem dX8_setCopies_57 : decode cX8_setCopies 57 = .ok (.aload_n 0, 1) := by decide +kernel
theorem dX8_setCopies_58 : decode cX8_setCopies 58 = .ok (.aload_n 0, 1) := by decide +kernel
theorem dX8_setCopies_59 : decode cX8_setCopies 59 = .ok (.iload_n 3, 1) := by decide +kernel
theorem dX8_setCopies_60 : decode cX8_setCopies 60 = .ok (.invokevirtual 91, 3) := by decide +kernel
theorem dX8_setCopies_63 : decode cX8_setCopies 63 = .ok (.invokevirtual 94, 3) := by decide +kernel
theorem dX8_setCopies_66 : decode cX8_setCopies 66 = .ok (.ireturn, 1) := by decide +kernel
theorem dX8_addsTask_0 : decode cX8_addsTask 0 = .ok (.iload_n 1, 1) := by decide +kernel
theorem dX8_addsTask_1 : decode cX8_addsTask 1 = .ok (.iconst 0, 1) := by decide +kernel
theorem dX8_addsTask_2 : decode cX8_addsTask 2 = .ok (.bipush 99, 2) := by decide +kernel
theorem dX8_addsTask_4 : decode cX8_addsTask 4 = .ok (.invokestatic 74, 3) := by decide +kernel
theorem dX8_addsTask_7 : decode cX8_addsTask 7 = .ok (.ifCond .eq 33, 3) := by decide +kernel
theorem dX8_addsTask_10 : decode cX8_addsTask 10 = .ok (.iload_n 2, 1) := by decide +kernel
theorem dX8_addsTask_11 : decode cX8_addsTask 11 = .ok (.iconst 0, 1) := by decide +kernel
theorem dX8_addsTask_12 : decode cX8_addsTask 12 = .ok (.bipush 99, 2) := by decide +kernel
theorem dX8_addsTask_14 : decode cX8_addsTask 14 = .ok (.invokestatic 74, 3) := by decide +kernel
theorem dX8_addsTask_17 : decode cX8_addsTask 17 = .ok (.ifCond .eq 23, 3) := by decide +kernel
theorem dX8_addsTask_20 : decode cX8_addsTask 20 = .ok (.iload_n 3, 1) := by decide +kernel
theorem dX8_addsTask_21 : decode cX8_addsTask 21 = .ok (.iconst 0, 1) := by decide +kernel
theorem dX8_addsTask_22 : decode cX8_addsTask 22 = .ok (.bipush 99, 2) := by decide +kernel
theorem dX8_addsTask_24 : decode cX8_addsTask 24 = .ok (.invokestatic 74, 3) := by decide +kernel
theorem dX8_addsTask_27 : decode cX8_addsTask 27 = .ok (.ifCond .eq 13, 3) := by decide +kernel
theorem dX8_addsTask_30 : decode cX8_addsTask 30 = .ok (.iload 4, 2) := by decide +kernel
theorem dX8_addsTask_32 : decode cX8_addsTask 32 = .ok (.iconst 0, 1) := by decide +kernel
theorem dX8_addsTask_33 : decode cX8_addsTask 33 = .ok (.iconst 5, 1) := by decide +kernel
theorem dX8_addsTask_34 : decode cX8_addsTask 34 = .ok (.invokestatic 74, 3) := by decide +kernel
theorem dX8_addsTask_37 : decode cX8_addsTask 37 = .ok (.ifCond .ne 9, 3) := by decide +kernel
theorem dX8_addsTask_40 : decode cX8_addsTask 40 = .ok (.aload_n 0, 1) := by decide +kernel
theorem dX8_addsTask_41 : decode cX8_addsTask 41 = .ok (.iconst 1, 1) := by decide +kernel
theorem dX8_addsTask_42 : decode cX8_addsTask 42 = .ok (.invokevirtual 87, 3) := by decide +kernel
theorem dX8_addsTask_45 : decode cX8_addsTask 45 = .ok (.ireturn, 1) := by decide +kernel
theorem dX8_addsTask_46 : decode cX8_addsTask 46 = .ok (.aload_n 0, 1) := by decide +kernel
theorem dX8_addsTask_47 : decode cX8_addsTask 47 = .ok (.getfield 7, 3) := by decide +kernel
theorem dX8_addsTask_50 : decode cX8_addsTask 50 = .ok (.bipush 16, 2) := by decide +kernel
theorem dX8_addsTask_52 : decode cX8_addsTask 52 = .ok (.iaload, 1) := by decide +kernel
theorem dX8_addsTask_53 : decode cX8_addsTask 53 = .ok (.bipush 12, 2) := by decide +kernel
theorem dX8_addsTask_55 : decode cX8_addsTask 55 = .ok (.if_icmp .ne 9, 3) := by decide +kernel
theorem dX8_addsTask_58 : decode cX8_addsTask 58 = .ok (.aload_n 0, 1) := by decide +kernel
theorem dX8_addsTask_59 : decode cX8_addsTask 59 = .ok (.iconst 2, 1) := by decide +kernel
theorem dX8_addsTask_60 : decode cX8_addsTask 60 = .ok (.invokevirtual 87, 3) := by decide +kernel
theorem dX8_addsTask_63 : decode cX8_addsTask 63 = .ok (.ireturn, 1) := by decide +kernel
theorem dX8_addsTask_64 : decode cX8_addsTask 64 = .ok (.aload_n 0, 1) := by decide +kernel
theorem dX8_addsTask_65 : decode cX8_addsTask 65 = .ok (.getfield 7, 3) := by decide +kernel
theorem dX8_addsTask_68 : decode cX8_addsTask 68 = .ok (.bipush 16, 2) := by decide +kernel
theorem dX8_addsTask_70 : decode cX8_addsTask 70 = .ok (.iaload, 1) := by decide +kernel
theorem dX8_addsTask_71 : decode cX8_addsTask 71 = .ok (.istore 5, 2) := by decide +kernel
theorem dX8_addsTask_73 : decode cX8_addsTask 73 = .ok (.aload_n 0, 1) := by decide +kernel
theorem dX8_addsTask_74 : decode cX8_addsTask 74 = .ok (.iload 5, 2) := by decide +kernel
theorem dX8_addsTask_76 : decode cX8_addsTask 76 = .ok (.iconst 0, 1) := by decide +kernel
theorem dX8_addsTask_77 : decode cX8_addsTask 77 = .ok (.iload_n 1, 1) := by decide +kernel
theorem dX8_addsTask_78 : decode cX8_addsTask 78 = .ok (.invokevirtual 113, 3) := by decide +kernel
theorem dX8_addsTask_81 : decode cX8_addsTask 81 = .ok (.aload_n 0, 1) := by decide +kernel
theorem dX8_addsTask_82 : decode cX8_addsTask 82 = .ok (.iload 5, 2) := by decide +kernel
theorem dX8_addsTask_84 : decode cX8_addsTask 84 = .ok (.iconst 1, 1) := by decide +kernel
theorem dX8_addsTask_85 : decode cX8_addsTask 85 = .ok (.iload_n 2, 1) := by decide +kernel
theorem dX8_addsTask_86 : decode cX8_addsTask 86 = .ok (.invokevirtual 113, 3) := by decide +kernel
theorem dX8_addsTask_89 : decode cX8_addsTask 89 = .ok (.aload_n 0, 1) := by decide +kernel
theorem dX8_addsTask_90 : decode cX8_addsTask 90 = .ok (.iload 5, 2) := by decide +kernel
theorem dX8_addsTask_92 : decode cX8_addsTask 92 = .ok (.iconst 2, 1) := by decide +kernel
theorem dX8_addsTask_93 : decode cX8_addsTask 93 = .ok (.iload_n 3, 1) := by decide +kernel
theorem dX8_addsTask_94 : decode cX8_addsTask 94 = .ok (.invokevirtual 113, 3) := by decide +kernel
theorem dX8_addsTask_97 : decode cX8_addsTask 97 = .ok (.aload_n 0, 1) := by decide +kernel
theorem dX8_addsTask_98 : decode cX8_addsTask 98 = .ok (.iload 5, 2) := by decide +kernel
theorem dX8_addsTask_100 : decode cX8_addsTask 100 = .ok (.iconst 3, 1) := by decide +kernel
theorem dX8_addsTask_101 : decode cX8_addsTask 101 = .ok (.iload 4, 2) := by decide +kernel
theorem dX8_addsTask_103 : decode cX8_addsTask 103 = .ok (.invokevirtual 113, 3) := by decide +kernel
theorem dX8_addsTask_106 : decode cX8_addsTask 106 = .ok (.aload_n 0, 1) := by decide +kernel
theorem dX8_addsTask_107 : decode cX8_addsTask 107 = .ok (.iload 5, 2) := by decide +kernel
theorem dX8_addsTask_109 : decode cX8_addsTask 109 = .ok (.iconst 4, 1) := by decide +kernel
theorem dX8_addsTask_110 : decode cX8_addsTask 110 = .ok (.iconst (-1), 1) := by decide +kernel
theorem dX8_addsTask_111 : decode cX8_addsTask 111 = .ok (.invokevirtual 113, 3) := by decide +kernel
theorem dX8_addsTask_114 : decode cX8_addsTask 114 = .ok (.aload_n 0, 1) := by decide +kernel
theorem dX8_addsTask_115 : decode cX8_addsTask 115 = .ok (.getfield 7, 3) := by decide +kernel
theorem dX8_addsTask_118 : decode cX8_addsTask 118 = .ok (.bipush 16, 2) := by decide +kernel
theorem dX8_addsTask_120 : decode cX8_addsTask 120 = .ok (.dup2, 1) := by decide +kernel
theorem dX8_addsTask_121 : decode cX8_addsTask 121 = .ok (.iaload, 1) := by decide +kernel
theorem dX8_addsTask_122 : decode cX8_addsTask 122 = .ok (.iconst 1, 1) := by decide +kernel
theorem dX8_addsTask_123 : decode cX8_addsTask 123 = .ok (.iadd, 1) := by decide +kernel
theorem dX8_addsTask_124 : decode cX8_addsTask 124 = .ok (.iastore, 1) := by decide +kernel
theorem dX8_addsTask_125 : decode cX8_addsTask 125 = .ok (.aload_n 0, 1) := by decide +kernel
theorem dX8_addsTask_126 : decode cX8_addsTask 126 = .ok (.iload 5, 2) := by decide +kernel
theorem dX8_addsTask_128 : decode cX8_addsTask 128 = .ok (.invokevirtual 91, 3) := by decide +kernel
theorem dX8_addsTask_131 : decode cX8_addsTask 131 = .ok (.ireturn, 1) := by decide +kernel
theorem dX8_addTask_0 : decode cX8_addTask 0 = .ok (.aload_n 0, 1) := by decide +kernel
theorem dX8_addTask_1 : decode cX8_addTask 1 = .ok (.invokevirtual 84, 3) := by decide +kernel
theorem dX8_addTask_4 : decode cX8_addTask 4 = .ok (.aload_n 0, 1) := by decide +kernel
theorem dX8_addTask_5 : decode cX8_addTask 5 = .ok (.aload_n 0, 1) := by decide +kernel
theorem dX8_addTask_6 : decode cX8_addTask 6 = .ok (.iload_n 1, 1) := by decide +kernel
theorem dX8_addTask_7 : decode cX8_addTask 7 = .ok (.iload_n 2, 1) := by decide +kernel
theorem dX8_addTask_8 : decode cX8_addTask 8 = .ok (.iload_n 3, 1) := by decide +kernel
theorem dX8_addTask_9 : decode cX8_addTask 9 = .ok (.iload 4, 2) := by decide +kernel
theorem dX8_addTask_11 : decode cX8_addTask 11 = .ok (.invokevirtual 117, 3) := by decide +kernel
theorem dX8_addTask_14 : decode cX8_addTask 14 = .ok (.invokevirtual 94, 3) := by decide +kernel
theorem dX8_addTask_17 : decode cX8_addTask 17 = .ok (.ireturn, 1) := by decide +kernel
theorem dX8_setTime_0 : decode cX8_setTime 0 = .ok (.aload_n 0, 1) := by decide +kernel
theorem dX8_setTime_1 : decode cX8_setTime 1 = .ok (.iload_n 1, 1) := by decide +kernel
theorem dX8_setTime_2 : decode cX8_setTime 2 = .ok (.invokevirtual 121, 3) := by decide +kernel
theorem dX8_setTime_5 : decode cX8_setTime 5 = .ok (.ifCond .eq 12, 3) := by decide +kernel
theorem dX8_setTime_8 : decode cX8_setTime 8 = .ok (.iload_n 2, 1) := by decide +kernel
theorem dX8_setTime_9 : decode cX8_setTime 9 = .ok (.iconst 0, 1) := by decide +kernel
theorem dX8_setTime_10 : decode cX8_setTime 10 = .ok (.iconst 2, 1) := by decide +kernel
theorem dX8_setTime_11 : decode cX8_setTime 11 = .ok (.invokestatic 74, 3) := by decide +kernel
theorem dX8_setTime_14 : decode cX8_setTime 14 = .ok (.ifCond .ne 9, 3) := by decide +kernel
theorem dX8_setTime_17 : decode cX8_setTime 17 = .ok (.aload_n 0, 1) := by decide +kernel
theorem dX8_setTime_18 : decode cX8_setTime 18 = .ok (.iconst 1, 1) := by decide +kernel
theorem dX8_setTime_19 : decode cX8_setTime 19 = .ok (.invokevirtual 87, 3) := by decide +kernel
theorem dX8_setTime_22 : decode cX8_setTime 22 = .ok (.ireturn, 1) := by decide +kernel
theorem dX8_setTime_23 : decode cX8_setTime 23 = .ok (.iload_n 3, 1) := by decide +kernel
theorem dX8_setTime_24 : decode cX8_setTime 24 = .ok (.iconst 0, 1) := by decide +kernel
theorem dX8_setTime_25 : decode cX8_setTime 25 = .ok (.bipush 99, 2) := by decide +kernel
theorem dX8_setTime_27 : decode cX8_setTime 27 = .ok (.invokestatic 74, 3) := by decide +kernel
theorem dX8_setTime_30 : decode cX8_setTime 30 = .ok (.ifCond .ne 9, 3) := by decide +kernel
theorem dX8_setTime_33 : decode cX8_setTime 33 = .ok (.aload_n 0, 1) := by decide +kernel
theorem dX8_setTime_34 : decode cX8_setTime 34 = .ok (.iconst 2, 1) := by decide +kernel
theorem dX8_setTime_35 : decode cX8_setTime 35 = .ok (.invokevirtual 87, 3) := by decide +kernel
theorem dX8_setTime_38 : decode cX8_setTime 38 = .ok (.ireturn, 1) := by decide +kernel
theorem dX8_setTime_39 : decode cX8_setTime 39 = .ok (.aload_n 0, 1) := by decide +kernel
theorem dX8_setTime_40 : decode cX8_setTime 40 = .ok (.invokevirtual 84, 3) := by decide +kernel
theorem dX8_setTime_43 : decode cX8_setTime 43 = .ok (.aload_n 0, 1) := by decide +kernel
theorem dX8_setTime_44 : decode cX8_setTime 44 = .ok (.iload_n 1, 1) := by decide +kernel
theorem dX8_setTime_45 : decode cX8_setTime 45 = .ok (.iload_n 2, 1) := by decide +kernel
theorem dX8_setTime_46 : decode cX8_setTime 46 = .ok (.invokevirtual 124, 3) := by decide +kernel
theorem dX8_setTime_49 : decode cX8_setTime 49 = .ok (.istore 4, 2) := by decide +kernel
theorem dX8_setTime_51 : decode cX8_setTime 51 = .ok (.aload_n 0, 1) := by decide +kernel
theorem dX8_setTime_52 : decode cX8_setTime 52 = .ok (.iload_n 1, 1) := by decide +kernel
theorem dX8_setTime_53 : decode cX8_setTime 53 = .ok (.iload_n 2, 1) := by decide +kernel
theorem dX8_setTime_54 : decode cX8_setTime 54 = .ok (.iload_n 3, 1) := by decide +kernel
theorem dX8_setTime_55 : decode cX8_setTime 55 = .ok (.invokevirtual 113, 3) := by decide +kernel
theorem dX8_setTime_58 : decode cX8_setTime 58 = .ok (.aload_n 0, 1) := by decide +kernel
theorem dX8_setTime_59 : decode cX8_setTime 59 = .ok (.aload_n 0, 1) := by decide +kernel
theorem dX8_setTime_60 : decode cX8_setTime 60 = .ok (.iload 4, 2) := by decide +kernel
theorem dX8_setTime_62 : decode cX8_setTime 62 = .ok (.invokevirtual 91, 3) := by decide +kernel
theorem dX8_setTime_65 : decode cX8_setTime 65 = .ok (.invokevirtual 94, 3) := by decide +kernel
theorem dX8_setTime_68 : decode cX8_setTime 68 = .ok (.ireturn, 1) := by decide +kernel
theorem dX8_setTool_0 : decode cX8_setTool 0 = .ok (.aload_n 0, 1) := by decide +kernel
theorem dX8_setTool_1 : decode cX8_setTool 1 = .ok (.iload_n 1, 1) := by decide +kernel
theorem dX8_setTool_2 : decode cX8_setTool 2 = .ok (.invokevirtual 121, 3) := by decide +kernel
theorem dX8_setTool_5 : decode cX8_setTool 5 = .ok (.ifCond .eq 12, 3) := by decide +kernel
theorem dX8_setTool_8 : decode cX8_setTool 8 = .ok (.iload_n 2, 1) := by decide +kernel
theorem dX8_setTool_9 : decode cX8_setTool 9 = .ok (.iconst 0, 1) := by decide +kernel
theorem dX8_setTool_10 : decode cX8_setTool 10 = .ok (.iconst 5, 1) := by decide +kernel
theorem dX8_setTool_11 : decode cX8_setTool 11 = .ok (.invokestatic 74, 3) := by decide +kernel
theorem dX8_setTool_14 : decode cX8_setTool 14 = .ok (.ifCond .ne 21, 3) := by decide +kernel
theorem dX8_setTool_17 : decode cX8_setTool 17 = .ok (.aload_n 0, 1) := by decide +kernel
theorem dX8_setTool_18 : decode cX8_setTool 18 = .ok (.aload_n 0, 1) := by decide +kernel
theorem dX8_setTool_19 : decode cX8_setTool 19 = .ok (.iload_n 1, 1) := by decide +kernel
theorem dX8_setTool_20 : decode cX8_setTool 20 = .ok (.invokevirtual 121, 3) := by decide +kernel
theorem dX8_setTool_23 : decode cX8_setTool 23 = .ok (.ifCond .ne 7, 3) := by decide +kernel
theorem dX8_setTool_26 : decode cX8_setTool 26 = .ok (.iconst 1, 1) := by decide +kernel
theorem dX8_setTool_27 : decode cX8_setTool 27 = .ok (.goto 4, 3) := by decide +kernel
theorem dX8_setTool_30 : decode cX8_setTool 30 = .ok (.iconst 2, 1) := by decide +kernel
theorem dX8_setTool_31 : decode cX8_setTool 31 = .ok (.invokevirtual 87, 3) := by decide +kernel
theorem dX8_setTool_34 : decode cX8_setTool 34 = .ok (.ireturn, 1) := by decide +kernel
theorem dX8_setTool_35 : decode cX8_setTool 35 = .ok (.aload_n 0, 1) := by decide +kernel
theorem dX8_setTool_36 : decode cX8_setTool 36 = .ok (.invokevirtual 84, 3) := by decide +kernel
theorem dX8_setTool_39 : decode cX8_setTool 39 = .ok (.aload_n 0, 1) := by decide +kernel
theorem dX8_setTool_40 : decode cX8_setTool 40 = .ok (.iload_n 1, 1) := by decide +kernel
theorem dX8_setTool_41 : decode cX8_setTool 41 = .ok (.iconst 3, 1) := by decide +kernel
theorem dX8_setTool_42 : decode cX8_setTool 42 = .ok (.invokevirtual 124, 3) := by decide +kernel
theorem dX8_setTool_45 : decode cX8_setTool 45 = .ok (.istore_n 3, 1) := by decide +kernel
theorem dX8_setTool_46 : decode cX8_setTool 46 = .ok (.aload_n 0, 1) := by decide +kernel
theorem dX8_setTool_47 : decode cX8_setTool 47 = .ok (.iload_n 1, 1) := by decide +kernel
theorem dX8_setTool_48 : decode cX8_setTool 48 = .ok (.iconst 3, 1) := by decide +kernel
theorem dX8_setTool_49 : decode cX8_setTool 49 = .ok (.iload_n 2, 1) := by decide +kernel
theorem dX8_setTool_50 : decode cX8_setTool 50 = .ok (.invokevirtual 113, 3) := by decide +kernel
theorem dX8_setTool_53 : decode cX8_setTool 53 = .ok (.aload_n 0, 1) := by decide +kernel
theorem dX8_setTool_54 : decode cX8_setTool 54 = .ok (.aload_n 0, 1) := by decide +kernel
theorem dX8_setTool_55 : decode cX8_setTool 55 = .ok (.iload_n 3, 1) := by decide +kernel
theorem dX8_setTool_56 : decode cX8_setTool 56 = .ok (.invokevirtual 91, 3) := by decide +kernel
theorem dX8_setTool_59 : decode cX8_setTool 59 = .ok (.invokevirtual 94, 3) := by decide +kernel
theorem dX8_setTool_62 : decode cX8_setTool 62 = .ok (.ireturn, 1) := by decide +kernel
theorem dX8_has_0 : decode cX8_has 0 = .ok (.iload_n 0, 1) := by decide +kernel
theorem dX8_has_1 : decode cX8_has 1 = .ok (.iload_n 1, 1) := by decide +kernel
theorem dX8_has_2 : decode cX8_has 2 = .ok (.ishr, 1) := by decide +kernel
theorem dX8_has_3 : decode cX8_has 3 = .ok (.iconst 1, 1) := by decide +kernel
theorem dX8_has_4 : decode cX8_has 4 = .ok (.iand, 1) := by decide +kernel
theorem dX8_has_5 : decode cX8_has 5 = .ok (.iconst 1, 1) := by decide +kernel
theorem dX8_has_6 : decode cX8_has 6 = .ok (.if_icmp .ne 7, 3) := by decide +kernel
theorem dX8_has_9 : decode cX8_has 9 = .ok (.iconst 1, 1) := by decide +kernel
theorem dX8_has_10 : decode cX8_has 10 = .ok (.goto 4, 3) := by decide +kernel
theorem dX8_has_13 : decode cX8_has 13 = .ok (.iconst 0, 1) := by decide +kernel
theorem dX8_has_14 : decode cX8_has 14 = .ok (.ireturn, 1) := by decide +kernel
theorem dX8_aheadOf_0 : decode cX8_aheadOf 0 = .ok (.aload_n 0, 1) := by decide +kernel
theorem dX8_aheadOf_1 : decode cX8_aheadOf 1 = .ok (.getfield 7, 3) := by decide +kernel
theorem dX8_aheadOf_4 : decode cX8_aheadOf 4 = .ok (.bipush 77, 2) := by decide +kernel
theorem dX8_aheadOf_6 : decode cX8_aheadOf 6 = .ok (.iload_n 1, 1) := by decide +kernel
theorem dX8_aheadOf_7 : decode cX8_aheadOf 7 = .ok (.iadd, 1) := by decide +kernel
theorem dX8_aheadOf_8 : decode cX8_aheadOf 8 = .ok (.iaload, 1) := by decide +kernel
theorem dX8_aheadOf_9 : decode cX8_aheadOf 9 = .ok (.istore_n 2, 1) := by decide +kernel
theorem dX8_aheadOf_10 : decode cX8_aheadOf 10 = .ok (.iconst (-1), 1) := by decide +kernel
theorem dX8_aheadOf_11 : decode cX8_aheadOf 11 = .ok (.istore_n 3, 1) := by decide +kernel
theorem dX8_aheadOf_12 : decode cX8_aheadOf 12 = .ok (.iload_n 3, 1) := by decide +kernel
theorem dX8_aheadOf_13 : decode cX8_aheadOf 13 = .ok (.iload_n 2, 1) := by decide +kernel
theorem dX8_aheadOf_14 : decode cX8_aheadOf 14 = .ok (.if_icmp .eq 55, 3) := by decide +kernel
theorem dX8_aheadOf_17 : decode cX8_aheadOf 17 = .ok (.iload_n 2, 1) := by decide +kernel
theorem dX8_aheadOf_18 : decode cX8_aheadOf 18 = .ok (.istore_n 3, 1) := by decide +kernel
theorem dX8_aheadOf_19 : decode cX8_aheadOf 19 = .ok (.iconst 0, 1) := by decide +kernel
theorem dX8_aheadOf_20 : decode cX8_aheadOf 20 = .ok (.istore 4, 2) := by decide +kernel
theorem dX8_aheadOf_22 : decode cX8_aheadOf 22 = .ok (.iload 4, 2) := by decide +kernel
theorem dX8_aheadOf_24 : decode cX8_aheadOf 24 = .ok (.aload_n 0, 1) := by decide +kernel
theorem dX8_aheadOf_25 : decode cX8_aheadOf 25 = .ok (.getfield 7, 3) := by decide +kernel
theorem dX8_aheadOf_28 : decode cX8_aheadOf 28 = .ok (.bipush 16, 2) := by decide +kernel
theorem dX8_aheadOf_30 : decode cX8_aheadOf 30 = .ok (.iaload, 1) := by decide +kernel
theorem dX8_aheadOf_31 : decode cX8_aheadOf 31 = .ok (.if_icmp .ge 35, 3) := by decide +kernel
theorem dX8_aheadOf_34 : decode cX8_aheadOf 34 = .ok (.iload_n 2, 1) := by decide +kernel
theorem dX8_aheadOf_35 : decode cX8_aheadOf 35 = .ok (.iload_n 3, 1) := by decide +kernel
theorem dX8_aheadOf_36 : decode cX8_aheadOf 36 = .ok (.iload 4, 2) := by decide +kernel
theorem dX8_aheadOf_38 : decode cX8_aheadOf 38 = .ok (.invokestatic 127, 3) := by decide +kernel
theorem dX8_aheadOf_41 : decode cX8_aheadOf 41 = .ok (.ifCond .eq 16, 3) := by decide +kernel
theorem dX8_aheadOf_44 : decode cX8_aheadOf 44 = .ok (.aload_n 0, 1) := by decide +kernel
theorem dX8_aheadOf_45 : decode cX8_aheadOf 45 = .ok (.getfield 7, 3) := by decide +kernel
theorem dX8_aheadOf_48 : decode cX8_aheadOf 48 = .ok (.bipush 77, 2) := by decide +kernel
theorem dX8_aheadOf_50 : decode cX8_aheadOf 50 = .ok (.iload 4, 2) := by decide +kernel
theorem dX8_aheadOf_52 : decode cX8_aheadOf 52 = .ok (.iadd, 1) := by decide +kernel
theorem dX8_aheadOf_53 : decode cX8_aheadOf 53 = .ok (.iaload, 1) := by decide +kernel
theorem dX8_aheadOf_54 : decode cX8_aheadOf 54 = .ok (.goto 4, 3) := by decide +kernel
theorem dX8_aheadOf_57 : decode cX8_aheadOf 57 = .ok (.iconst 0, 1) := by decide +kernel
theorem dX8_aheadOf_58 : decode cX8_aheadOf 58 = .ok (.ior, 1) := by decide +kernel
theorem dX8_aheadOf_59 : decode cX8_aheadOf 59 = .ok (.istore_n 2, 1) := by decide +kernel
theorem dX8_aheadOf_60 : decode cX8_aheadOf 60 = .ok (.iinc 4 1, 3) := by decide +kernel
theorem dX8_aheadOf_63 : decode cX8_aheadOf 63 = .ok (.goto (-41), 3) := by decide +kernel
theorem dX8_aheadOf_66 : decode cX8_aheadOf 66 = .ok (.goto (-54), 3) := by decide +kernel
theorem dX8_aheadOf_69 : decode cX8_aheadOf 69 = .ok (.iload_n 2, 1) := by decide +kernel
theorem dX8_aheadOf_70 : decode cX8_aheadOf 70 = .ok (.ireturn, 1) := by decide +kernel
theorem dX8_behind_0 : decode cX8_behind 0 = .ok (.iconst 0, 1) := by decide +kernel
theorem dX8_behind_1 : decode cX8_behind 1 = .ok (.istore_n 2, 1) := by decide +kernel
theorem dX8_behind_2 : decode cX8_behind 2 = .ok (.iconst 0, 1) := by decide +kernel
theorem dX8_behind_3 : decode cX8_behind 3 = .ok (.istore_n 3, 1) := by decide +kernel
theorem dX8_behind_4 : decode cX8_behind 4 = .ok (.iload_n 3, 1) := by decide +kernel
theorem dX8_behind_5 : decode cX8_behind 5 = .ok (.aload_n 0, 1) := by decide +kernel
theorem dX8_behind_6 : decode cX8_behind 6 = .ok (.getfield 7, 3) := by decide +kernel
theorem dX8_behind_9 : decode cX8_behind 9 = .ok (.bipush 16, 2) := by decide +kernel
theorem dX8_behind_11 : decode cX8_behind 11 = .ok (.iaload, 1) := by decide +kernel
theorem dX8_behind_12 : decode cX8_behind 12 = .ok (.if_icmp .ge 31, 3) := by decide +kernel
theorem dX8_behind_15 : decode cX8_behind 15 = .ok (.iload_n 2, 1) := by decide +kernel
theorem dX8_behind_16 : decode cX8_behind 16 = .ok (.aload_n 0, 1) := by decide +kernel
theorem dX8_behind_17 : decode cX8_behind 17 = .ok (.iload_n 3, 1) := by decide +kernel
theorem dX8_behind_18 : decode cX8_behind 18 = .ok (.invokevirtual 130, 3) := by decide +kernel
theorem dX8_behind_21 : decode cX8_behind 21 = .ok (.iload_n 1, 1) := by decide +kernel
theorem dX8_behind_22 : decode cX8_behind 22 = .ok (.invokestatic 127, 3) := by decide +kernel
theorem dX8_behind_25 : decode cX8_behind 25 = .ok (.ifCond .eq 9, 3) := by decide +kernel
theorem dX8_behind_28 : decode cX8_behind 28 = .ok (.iconst 1, 1) := by decide +kernel
theorem dX8_behind_29 : decode cX8_behind 29 = .ok (.iload_n 3, 1) := by decide +kernel
theorem dX8_behind_30 : decode cX8_behind 30 = .ok (.ishl, 1) := by decide +kernel
theorem dX8_behind_31 : decode cX8_behind 31 = .ok (.goto 4, 3) := by decide +kernel
theorem dX8_behind_34 : decode cX8_behind 34 = .ok (.iconst 0, 1) := by decide +kernel
theorem dX8_behind_35 : decode cX8_behind 35 = .ok (.ior, 1) := by decide +kernel
theorem dX8_behind_36 : decode cX8_behind 36 = .ok (.istore_n 2, 1) := by decide +kernel
theorem dX8_behind_37 : decode cX8_behind 37 = .ok (.iinc 3 1, 3) := by decide +kernel
theorem dX8_behind_40 : decode cX8_behind 40 = .ok (.goto (-36), 3) := by decide +kernel
theorem dX8_behind_43 : decode cX8_behind 43 = .ok (.iload_n 2, 1) := by decide +kernel
theorem dX8_behind_44 : decode cX8_behind 44 = .ok (.ireturn, 1) := by decide +kernel
theorem dX8_many_0 : decode cX8_many 0 = .ok (.iconst 0, 1) := by decide +kernel
theorem dX8_many_1 : decode cX8_many 1 = .ok (.istore_n 1, 1) := by decide +kernel
theorem dX8_many_2 : decode cX8_many 2 = .ok (.iconst 0, 1) := by decide +kernel
theorem dX8_many_3 : decode cX8_many 3 = .ok (.istore_n 2, 1) := by decide +kernel
theorem dX8_many_4 : decode cX8_many 4 = .ok (.iload_n 2, 1) := by decide +kernel
theorem dX8_many_5 : decode cX8_many 5 = .ok (.bipush 32, 2) := by decide +kernel
theorem dX8_many_7 : decode cX8_many 7 = .ok (.if_icmp .ge 25, 3) := by decide +kernel
theorem dX8_many_10 : decode cX8_many 10 = .ok (.iload_n 1, 1) := by decide +kernel
theorem dX8_many_11 : decode cX8_many 11 = .ok (.iload_n 0, 1) := by decide +kernel
theorem dX8_many_12 : decode cX8_many 12 = .ok (.iload_n 2, 1) := by decide +kernel
theorem dX8_many_13 : decode cX8_many 13 = .ok (.invokestatic 127, 3) := by decide +kernel
theorem dX8_many_16 : decode cX8_many 16 = .ok (.ifCond .eq 7, 3) := by decide +kernel
theorem dX8_many_19 : decode cX8_many 19 = .ok (.iconst 1, 1) := by decide +kernel
theorem dX8_many_20 : decode cX8_many 20 = .ok (.goto 4, 3) := by decide +kernel
theorem dX8_many_23 : decode cX8_many 23 = .ok (.iconst 0, 1) := by decide +kernel
theorem dX8_many_24 : decode cX8_many 24 = .ok (.iadd, 1) := by decide +kernel
theorem dX8_many_25 : decode cX8_many 25 = .ok (.istore_n 1, 1) := by decide +kernel
theorem dX8_many_26 : decode cX8_many 26 = .ok (.iinc 2 1, 3) := by decide +kernel
theorem dX8_many_29 : decode cX8_many 29 = .ok (.goto (-25), 3) := by decide +kernel
theorem dX8_many_32 : decode cX8_many 32 = .ok (.iload_n 1, 1) := by decide +kernel
theorem dX8_many_33 : decode cX8_many 33 = .ok (.ireturn, 1) := by decide +kernel
theorem dX8_putsBefore_0 : decode cX8_putsBefore 0 = .ok (.aload_n 0, 1) := by decide +kernel
theorem dX8_putsBefore_1 : decode cX8_putsBefore 1 = .ok (.iload_n 1, 1) := by decide +kernel
theorem dX8_putsBefore_2 : decode cX8_putsBefore 2 = .ok (.invokevirtual 121, 3) := by decide +kernel
theorem dX8_putsBefore_5 : decode cX8_putsBefore 5 = .ok (.ifCond .eq 11, 3) := by decide +kernel
theorem dX8_putsBefore_8 : decode cX8_putsBefore 8 = .ok (.aload_n 0, 1) := by decide +kernel
theorem dX8_putsBefore_9 : decode cX8_putsBefore 9 = .ok (.iload_n 2, 1) := by decide +kernel
theorem dX8_putsBefore_10 : decode cX8_putsBefore 10 = .ok (.invokevirtual 121, 3) := by decide +kernel
theorem dX8_putsBefore_13 : decode cX8_putsBefore 13 = .ok (.ifCond .ne 9, 3) := by decide +kernel
theorem dX8_putsBefore_16 : decode cX8_putsBefore 16 = .ok (.aload_n 0, 1) := by decide +kernel
theorem dX8_putsBefore_17 : decode cX8_putsBefore 17 = .ok (.iconst 1, 1) := by decide +kernel
theorem dX8_putsBefore_18 : decode cX8_putsBefore 18 = .ok (.invokevirtual 87, 3) := by decide +kernel
theorem dX8_putsBefore_21 : decode cX8_putsBefore 21 = .ok (.ireturn, 1) := by decide +kernel
theorem dX8_putsBefore_22 : decode cX8_putsBefore 22 = .ok (.iload_n 1, 1) := by decide +kernel
theorem dX8_putsBefore_23 : decode cX8_putsBefore 23 = .ok (.iload_n 2, 1) := by decide +kernel
theorem dX8_putsBefore_24 : decode cX8_putsBefore 24 = .ok (.if_icmp .eq 19, 3) := by decide +kernel
theorem dX8_putsBefore_27 : decode cX8_putsBefore 27 = .ok (.aload_n 0, 1) := by decide +kernel
theorem dX8_putsBefore_28 : decode cX8_putsBefore 28 = .ok (.getfield 7, 3) := by decide +kernel
theorem dX8_putsBefore_31 : decode cX8_putsBefore 31 = .ok (.bipush 77, 2) := by decide +kernel
theorem dX8_putsBefore_33 : decode cX8_putsBefore 33 = .ok (.iload_n 2, 1) := by decide +kernel
theorem dX8_putsBefore_34 : decode cX8_putsBefore 34 = .ok (.iadd, 1) := by decide +kernel
theorem dX8_putsBefore_35 : decode cX8_putsBefore 35 = .ok (.iaload, 1) := by decide +kernel
theorem dX8_putsBefore_36 : decode cX8_putsBefore 36 = .ok (.iload_n 1, 1) := by decide +kernel
theorem dX8_putsBefore_37 : decode cX8_putsBefore 37 = .ok (.invokestatic 127, 3) := by decide +kernel
theorem dX8_putsBefore_40 : decode cX8_putsBefore 40 = .ok (.ifCond .eq 9, 3) := by decide +kernel
theorem dX8_putsBefore_43 : decode cX8_putsBefore 43 = .ok (.aload_n 0, 1) := by decide +kernel
theorem dX8_putsBefore_44 : decode cX8_putsBefore 44 = .ok (.iconst 2, 1) := by decide +kernel
theorem dX8_putsBefore_45 : decode cX8_putsBefore 45 = .ok (.invokevirtual 87, 3) := by decide +kernel
theorem dX8_putsBefore_48 : decode cX8_putsBefore 48 = .ok (.ireturn, 1) := by decide +kernel
theorem dX8_putsBefore_49 : decode cX8_putsBefore 49 = .ok (.aload_n 0, 1) := by decide +kernel
theorem dX8_putsBefore_50 : decode cX8_putsBefore 50 = .ok (.iload_n 1, 1) := by decide +kernel
theorem dX8_putsBefore_51 : decode cX8_putsBefore 51 = .ok (.invokevirtual 130, 3) := by decide +kernel
theorem dX8_putsBefore_54 : decode cX8_putsBefore 54 = .ok (.iload_n 2, 1) := by decide +kernel
theorem dX8_putsBefore_55 : decode cX8_putsBefore 55 = .ok (.invokestatic 127, 3) := by decide +kernel
theorem dX8_putsBefore_58 : decode cX8_putsBefore 58 = .ok (.ifCond .eq 9, 3) := by decide +kernel
theorem dX8_putsBefore_61 : decode cX8_putsBefore 61 = .ok (.aload_n 0, 1) := by decide +kernel
theorem dX8_putsBefore_62 : decode cX8_putsBefore 62 = .ok (.iconst 3, 1) := by decide +kernel
theorem dX8_putsBefore_63 : decode cX8_putsBefore 63 = .ok (.invokevirtual 87, 3) := by decide +kernel
theorem dX8_putsBefore_66 : decode cX8_putsBefore 66 = .ok (.ireturn, 1) := by decide +kernel
theorem dX8_putsBefore_67 : decode cX8_putsBefore 67 = .ok (.aload_n 0, 1) := by decide +kernel
theorem dX8_putsBefore_68 : decode cX8_putsBefore 68 = .ok (.getfield 7, 3) := by decide +kernel
theorem dX8_putsBefore_71 : decode cX8_putsBefore 71 = .ok (.bipush 77, 2) := by decide +kernel
theorem dX8_putsBefore_73 : decode cX8_putsBefore 73 = .ok (.iload_n 2, 1) := by decide +kernel
theorem dX8_putsBefore_74 : decode cX8_putsBefore 74 = .ok (.iadd, 1) := by decide +kernel
theorem dX8_putsBefore_75 : decode cX8_putsBefore 75 = .ok (.dup2, 1) := by decide +kernel
theorem dX8_putsBefore_76 : decode cX8_putsBefore 76 = .ok (.iaload, 1) := by decide +kernel
theorem dX8_putsBefore_77 : decode cX8_putsBefore 77 = .ok (.iconst 1, 1) := by decide +kernel
theorem dX8_putsBefore_78 : decode cX8_putsBefore 78 = .ok (.iload_n 1, 1) := by decide +kernel
theorem dX8_putsBefore_79 : decode cX8_putsBefore 79 = .ok (.ishl, 1) := by decide +kernel
theorem dX8_putsBefore_80 : decode cX8_putsBefore 80 = .ok (.ior, 1) := by decide +kernel
theorem dX8_putsBefore_81 : decode cX8_putsBefore 81 = .ok (.iastore, 1) := by decide +kernel
theorem dX8_putsBefore_82 : decode cX8_putsBefore 82 = .ok (.aload_n 0, 1) := by decide +kernel
theorem dX8_putsBefore_83 : decode cX8_putsBefore 83 = .ok (.aload_n 0, 1) := by decide +kernel
theorem dX8_putsBefore_84 : decode cX8_putsBefore 84 = .ok (.iload_n 2, 1) := by decide +kernel
theorem dX8_putsBefore_85 : decode cX8_putsBefore 85 = .ok (.invokevirtual 130, 3) := by decide +kernel
theorem dX8_putsBefore_88 : decode cX8_putsBefore 88 = .ok (.invokestatic 133, 3) := by decide +kernel
theorem dX8_putsBefore_91 : decode cX8_putsBefore 91 = .ok (.invokevirtual 91, 3) := by decide +kernel
theorem dX8_putsBefore_94 : decode cX8_putsBefore 94 = .ok (.ireturn, 1) := by decide +kernel
theorem dX8_before_0 : decode cX8_before 0 = .ok (.aload_n 0, 1) := by decide +kernel
theorem dX8_before_1 : decode cX8_before 1 = .ok (.invokevirtual 84, 3) := by decide +kernel
theorem dX8_before_4 : decode cX8_before 4 = .ok (.aload_n 0, 1) := by decide +kernel
theorem dX8_before_5 : decode cX8_before 5 = .ok (.aload_n 0, 1) := by decide +kernel
theorem dX8_before_6 : decode cX8_before 6 = .ok (.iload_n 1, 1) := by decide +kernel
theorem dX8_before_7 : decode cX8_before 7 = .ok (.iload_n 2, 1) := by decide +kernel
theorem dX8_before_8 : decode cX8_before 8 = .ok (.invokevirtual 136, 3) := by decide +kernel
theorem dX8_before_11 : decode cX8_before 11 = .ok (.invokevirtual 94, 3) := by decide +kernel
theorem dX8_before_14 : decode cX8_before 14 = .ok (.ireturn, 1) := by decide +kernel
theorem dX8_pairOf_0 : decode cX8_pairOf 0 = .ok (.aload_n 0, 1) := by decide +kernel
theorem dX8_pairOf_1 : decode cX8_pairOf 1 = .ok (.getfield 7, 3) := by decide +kernel
theorem dX8_pairOf_4 : decode cX8_pairOf 4 = .ok (.bipush 89, 2) := by decide +kernel
theorem dX8_pairOf_6 : decode cX8_pairOf 6 = .ok (.iload_n 1, 1) := by decide +kernel
theorem dX8_pairOf_7 : decode cX8_pairOf 7 = .ok (.iadd, 1) := by decide +kernel
theorem dX8_pairOf_8 : decode cX8_pairOf 8 = .ok (.iaload, 1) := by decide +kernel
theorem dX8_pairOf_9 : decode cX8_pairOf 9 = .ok (.iload_n 2, 1) := by decide +kernel
theorem dX8_pairOf_10 : decode cX8_pairOf 10 = .ok (.invokestatic 127, 3) := by decide +kernel
theorem dX8_pairOf_13 : decode cX8_pairOf 13 = .ok (.ifCond .eq 7, 3) := by decide +kernel
theorem dX8_pairOf_16 : decode cX8_pairOf 16 = .ok (.iconst 1, 1) := by decide +kernel
theorem dX8_pairOf_17 : decode cX8_pairOf 17 = .ok (.goto 24, 3) := by decide +kernel
theorem dX8_pairOf_20 : decode cX8_pairOf 20 = .ok (.aload_n 0, 1) := by decide +kernel
theorem dX8_pairOf_21 : decode cX8_pairOf 21 = .ok (.getfield 7, 3) := by decide +kernel
theorem dX8_pairOf_24 : decode cX8_pairOf 24 = .ok (.bipush 101, 2) := by decide +kernel
theorem dX8_pairOf_26 : decode cX8_pairOf 26 = .ok (.iload_n 1, 1) := by decide +kernel
theorem dX8_pairOf_27 : decode cX8_pairOf 27 = .ok (.iadd, 1) := by decide +kernel
theorem dX8_pairOf_28 : decode cX8_pairOf 28 = .ok (.iaload, 1) := by decide +kernel
theorem dX8_pairOf_29 : decode cX8_pairOf 29 = .ok (.iload_n 2, 1) := by decide +kernel
theorem dX8_pairOf_30 : decode cX8_pairOf 30 = .ok (.invokestatic 127, 3) := by decide +kernel
theorem dX8_pairOf_33 : decode cX8_pairOf 33 = .ok (.ifCond .eq 7, 3) := by decide +kernel
theorem dX8_pairOf_36 : decode cX8_pairOf 36 = .ok (.iconst 2, 1) := by decide +kernel
theorem dX8_pairOf_37 : decode cX8_pairOf 37 = .ok (.goto 4, 3) := by decide +kernel
theorem dX8_pairOf_40 : decode cX8_pairOf 40 = .ok (.iconst 0, 1) := by decide +kernel
theorem dX8_pairOf_41 : decode cX8_pairOf 41 = .ok (.ireturn, 1) := by decide +kernel
theorem dX8_parts_0 : decode cX8_parts 0 = .ok (.aload_n 0, 1) := by decide +kernel
theorem dX8_parts_1 : decode cX8_parts 1 = .ok (.getfield 7, 3) := by decide +kernel
theorem dX8_parts_4 : decode cX8_parts 4 = .ok (.bipush 89, 2) := by decide +kernel
theorem dX8_parts_6 : decode cX8_parts 6 = .ok (.iload_n 1, 1) := by decide +kernel
theorem dX8_parts_7 : decode cX8_parts 7 = .ok (.iadd, 1) := by decide +kernel
theorem dX8_parts_8 : decode cX8_parts 8 = .ok (.dup2, 1) := by decide +kernel
theorem dX8_parts_9 : decode cX8_parts 9 = .ok (.iaload, 1) := by decide +kernel
theorem dX8_parts_10 : decode cX8_parts 10 = .ok (.iconst 1, 1) := by decide +kernel
theorem dX8_parts_11 : decode cX8_parts 11 = .ok (.iload_n 2, 1) := by decide +kernel
theorem dX8_parts_12 : decode cX8_parts 12 = .ok (.ishl, 1) := by decide +kernel
theorem dX8_parts_13 : decode cX8_parts 13 = .ok (.iconst (-1), 1) := by decide +kernel
theorem dX8_parts_14 : decode cX8_parts 14 = .ok (.ixor, 1) := by decide +kernel
theorem dX8_parts_15 : decode cX8_parts 15 = .ok (.iand, 1) := by decide +kernel
theorem dX8_parts_16 : decode cX8_parts 16 = .ok (.iastore, 1) := by decide +kernel
theorem dX8_parts_17 : decode cX8_parts 17 = .ok (.aload_n 0, 1) := by decide +kernel
theorem dX8_parts_18 : decode cX8_parts 18 = .ok (.getfield 7, 3) := by decide +kernel
theorem dX8_parts_21 : decode cX8_parts 21 = .ok (.bipush 89, 2) := by decide +kernel
theorem dX8_parts_23 : decode cX8_parts 23 = .ok (.iload_n 2, 1) := by decide +kernel
theorem dX8_parts_24 : decode cX8_parts 24 = .ok (.iadd, 1) := by decide +kernel
theorem dX8_parts_25 : decode cX8_parts 25 = .ok (.dup2, 1) := by decide +kernel
theorem dX8_parts_26 : decode cX8_parts 26 = .ok (.iaload, 1) := by decide +kernel
theorem dX8_parts_27 : decode cX8_parts 27 = .ok (.iconst 1, 1) := by decide +kernel
theorem dX8_parts_28 : decode cX8_parts 28 = .ok (.iload_n 1, 1) := by decide +kernel
theorem dX8_parts_29 : decode cX8_parts 29 = .ok (.ishl, 1) := by decide +kernel
theorem dX8_parts_30 : decode cX8_parts 30 = .ok (.iconst (-1), 1) := by decide +kernel
theorem dX8_parts_31 : decode cX8_parts 31 = .ok (.ixor, 1) := by decide +kernel
theorem dX8_parts_32 : decode cX8_parts 32 = .ok (.iand, 1) := by decide +kernel
theorem dX8_parts_33 : decode cX8_parts 33 = .ok (.iastore, 1) := by decide +kernel
theorem dX8_parts_34 : decode cX8_parts 34 = .ok (.aload_n 0, 1) := by decide +kernel
theorem dX8_parts_35 : decode cX8_parts 35 = .ok (.getfield 7, 3) := by decide +kernel
theorem dX8_parts_38 : decode cX8_parts 38 = .ok (.bipush 101, 2) := by decide +kernel
theorem dX8_parts_40 : decode cX8_parts 40 = .ok (.iload_n 1, 1) := by decide +kernel
theorem dX8_parts_41 : decode cX8_parts 41 = .ok (.iadd, 1) := by decide +kernel
theorem dX8_parts_42 : decode cX8_parts 42 = .ok (.dup2, 1) := by decide +kernel
theorem dX8_parts_43 : decode cX8_parts 43 = .ok (.iaload, 1) := by decide +kernel
theorem dX8_parts_44 : decode cX8_parts 44 = .ok (.iconst 1, 1) := by decide +kernel
theorem dX8_parts_45 : decode cX8_parts 45 = .ok (.iload_n 2, 1) := by decide +kernel
theorem dX8_parts_46 : decode cX8_parts 46 = .ok (.ishl, 1) := by decide +kernel
theorem dX8_parts_47 : decode cX8_parts 47 = .ok (.iconst (-1), 1) := by decide +kernel
theorem dX8_parts_48 : decode cX8_parts 48 = .ok (.ixor, 1) := by decide +kernel
theorem dX8_parts_49 : decode cX8_parts 49 = .ok (.iand, 1) := by decide +kernel
theorem dX8_parts_50 : decode cX8_parts 50 = .ok (.iastore, 1) := by decide +kernel
theorem dX8_parts_51 : decode cX8_parts 51 = .ok (.aload_n 0, 1) := by decide +kernel
theorem dX8_parts_52 : decode cX8_parts 52 = .ok (.getfield 7, 3) := by decide +kernel
theorem dX8_parts_55 : decode cX8_parts 55 = .ok (.bipush 101, 2) := by decide +kernel
theorem dX8_parts_57 : decode cX8_parts 57 = .ok (.iload_n 2, 1) := by decide +kernel
theorem dX8_parts_58 : decode cX8_parts 58 = .ok (.iadd, 1) := by decide +kernel
theorem dX8_parts_59 : decode cX8_parts 59 = .ok (.dup2, 1) := by decide +kernel
theorem dX8_parts_60 : decode cX8_parts 60 = .ok (.iaload, 1) := by decide +kernel
theorem dX8_parts_61 : decode cX8_parts 61 = .ok (.iconst 1, 1) := by decide +kernel
theorem dX8_parts_62 : decode cX8_parts 62 = .ok (.iload_n 1, 1) := by decide +kernel
theorem dX8_parts_63 : decode cX8_parts 63 = .ok (.ishl, 1) := by decide +kernel
theorem dX8_parts_64 : decode cX8_parts 64 = .ok (.iconst (-1), 1) := by decide +kernel
theorem dX8_parts_65 : decode cX8_parts 65 = .ok (.ixor, 1) := by decide +kernel
theorem dX8_parts_66 : decode cX8_parts 66 = .ok (.iand, 1) := by decide +kernel
theorem dX8_parts_67 : decode cX8_parts 67 = .ok (.iastore, 1) := by decide +kernel
theorem dX8_parts_68 : decode cX8_parts 68 = .ok (.return_, 1) := by decide +kernel
theorem dX8_pairs_0 : decode cX8_pairs 0 = .ok (.aload_n 0, 1) := by decide +kernel
theorem dX8_pairs_1 : decode cX8_pairs 1 = .ok (.iload_n 1, 1) := by decide +kernel
theorem dX8_pairs_2 : decode cX8_pairs 2 = .ok (.invokevirtual 121, 3) := by decide +kernel
theorem dX8_pairs_5 : decode cX8_pairs 5 = .ok (.ifCond .eq 11, 3) := by decide +kernel
theorem dX8_pairs_8 : decode cX8_pairs 8 = .ok (.aload_n 0, 1) := by decide +kernel
theorem dX8_pairs_9 : decode cX8_pairs 9 = .ok (.iload_n 2, 1) := by decide +kernel
theorem dX8_pairs_10 : decode cX8_pairs 10 = .ok (.invokevirtual 121, 3) := by decide +kernel
theorem dX8_pairs_13 : decode cX8_pairs 13 = .ok (.ifCond .ne 9, 3) := by decide +kernel
theorem dX8_pairs_16 : decode cX8_pairs 16 = .ok (.aload_n 0, 1) := by decide +kernel
theorem dX8_pairs_17 : decode cX8_pairs 17 = .ok (.iconst 1, 1) := by decide +kernel
theorem dX8_pairs_18 : decode cX8_pairs 18 = .ok (.invokevirtual 87, 3) := by decide +kernel
theorem dX8_pairs_21 : decode cX8_pairs 21 = .ok (.ireturn, 1) := by decide +kernel
theorem dX8_pairs_22 : decode cX8_pairs 22 = .ok (.iload_n 1, 1) := by decide +kernel
theorem dX8_pairs_23 : decode cX8_pairs 23 = .ok (.iload_n 2, 1) := by decide +kernel
theorem dX8_pairs_24 : decode cX8_pairs 24 = .ok (.if_icmp .ne 9, 3) := by decide +kernel
theorem dX8_pairs_27 : decode cX8_pairs 27 = .ok (.aload_n 0, 1) := by decide +kernel
theorem dX8_pairs_28 : decode cX8_pairs 28 = .ok (.iconst 2, 1) := by decide +kernel
theorem dX8_pairs_29 : decode cX8_pairs 29 = .ok (.invokevirtual 87, 3) := by decide +kernel
theorem dX8_pairs_32 : decode cX8_pairs 32 = .ok (.ireturn, 1) := by decide +kernel
theorem dX8_pairs_33 : decode cX8_pairs 33 = .ok (.aload_n 0, 1) := by decide +kernel
theorem dX8_pairs_34 : decode cX8_pairs 34 = .ok (.iload_n 1, 1) := by decide +kernel
theorem dX8_pairs_35 : decode cX8_pairs 35 = .ok (.iload_n 2, 1) := by decide +kernel
theorem dX8_pairs_36 : decode cX8_pairs 36 = .ok (.invokevirtual 139, 3) := by decide +kernel
theorem dX8_pairs_39 : decode cX8_pairs 39 = .ok (.istore 4, 2) := by decide +kernel
theorem dX8_pairs_41 : decode cX8_pairs 41 = .ok (.aload_n 0, 1) := by decide +kernel
theorem dX8_pairs_42 : decode cX8_pairs 42 = .ok (.iload_n 1, 1) := by decide +kernel
theorem dX8_pairs_43 : decode cX8_pairs 43 = .ok (.iload_n 2, 1) := by decide +kernel
theorem dX8_pairs_44 : decode cX8_pairs 44 = .ok (.invokevirtual 142, 3) := by decide +kernel
theorem dX8_pairs_47 : decode cX8_pairs 47 = .ok (.iload_n 3, 1) := by decide +kernel
theorem dX8_pairs_48 : decode cX8_pairs 48 = .ok (.ifCond .eq 8, 3) := by decide +kernel
theorem dX8_pairs_51 : decode cX8_pairs 51 = .ok (.bipush 89, 2) := by decide +kernel
theorem dX8_pairs_53 : decode cX8_pairs 53 = .ok (.goto 5, 3) := by decide +kernel
theorem dX8_pairs_56 : decode cX8_pairs 56 = .ok (.bipush 101, 2) := by decide +kernel
theorem dX8_pairs_58 : decode cX8_pairs 58 = .ok (.istore 5, 2) := by decide +kernel
theorem dX8_pairs_60 : decode cX8_pairs 60 = .ok (.aload_n 0, 1) := by decide +kernel
theorem dX8_pairs_61 : decode cX8_pairs 61 = .ok (.getfield 7, 3) := by decide +kernel
theorem dX8_pairs_64 : decode cX8_pairs 64 = .ok (.iload 5, 2) := by decide +kernel
theorem dX8_pairs_66 : decode cX8_pairs 66 = .ok (.iload_n 1, 1) := by decide +kernel
theorem dX8_pairs_67 : decode cX8_pairs 67 = .ok (.iadd, 1) := by decide +kernel
theorem dX8_pairs_68 : decode cX8_pairs 68 = .ok (.dup2, 1) := by decide +kernel
theorem dX8_pairs_69 : decode cX8_pairs 69 = .ok (.iaload, 1) := by decide +kernel
theorem dX8_pairs_70 : decode cX8_pairs 70 = .ok (.iconst 1, 1) := by decide +kernel
theorem dX8_pairs_71 : decode cX8_pairs 71 = .ok (.iload_n 2, 1) := by decide +kernel
theorem dX8_pairs_72 : decode cX8_pairs 72 = .ok (.ishl, 1) := by decide +kernel
theorem dX8_pairs_73 : decode cX8_pairs 73 = .ok (.ior, 1) := by decide +kernel
theorem dX8_pairs_74 : decode cX8_pairs 74 = .ok (.iastore, 1) := by decide +kernel
theorem dX8_pairs_75 : decode cX8_pairs 75 = .ok (.aload_n 0, 1) := by decide +kernel
theorem dX8_pairs_76 : decode cX8_pairs 76 = .ok (.getfield 7, 3) := by decide +kernel
theorem dX8_pairs_79 : decode cX8_pairs 79 = .ok (.iload 5, 2) := by decide +kernel
theorem dX8_pairs_81 : decode cX8_pairs 81 = .ok (.iload_n 2, 1) := by decide +kernel
theorem dX8_pairs_82 : decode cX8_pairs 82 = .ok (.iadd, 1) := by decide +kernel
theorem dX8_pairs_83 : decode cX8_pairs 83 = .ok (.dup2, 1) := by decide +kernel
theorem dX8_pairs_84 : decode cX8_pairs 84 = .ok (.iaload, 1) := by decide +kernel
theorem dX8_pairs_85 : decode cX8_pairs 85 = .ok (.iconst 1, 1) := by decide +kernel
theorem dX8_pairs_86 : decode cX8_pairs 86 = .ok (.iload_n 1, 1) := by decide +kernel
theorem dX8_pairs_87 : decode cX8_pairs 87 = .ok (.ishl, 1) := by decide +kernel
theorem dX8_pairs_88 : decode cX8_pairs 88 = .ok (.ior, 1) := by decide +kernel
theorem dX8_pairs_89 : decode cX8_pairs 89 = .ok (.iastore, 1) := by decide +kernel
theorem dX8_pairs_90 : decode cX8_pairs 90 = .ok (.aload_n 0, 1) := by decide +kernel
theorem dX8_pairs_91 : decode cX8_pairs 91 = .ok (.iload 4, 2) := by decide +kernel
theorem dX8_pairs_93 : decode cX8_pairs 93 = .ok (.invokevirtual 91, 3) := by decide +kernel
theorem dX8_pairs_96 : decode cX8_pairs 96 = .ok (.ireturn, 1) := by decide +kernel
theorem dX8_pair_0 : decode cX8_pair 0 = .ok (.aload_n 0, 1) := by decide +kernel
theorem dX8_pair_1 : decode cX8_pair 1 = .ok (.invokevirtual 84, 3) := by decide +kernel
theorem dX8_pair_4 : decode cX8_pair 4 = .ok (.aload_n 0, 1) := by decide +kernel
theorem dX8_pair_5 : decode cX8_pair 5 = .ok (.aload_n 0, 1) := by decide +kernel
theorem dX8_pair_6 : decode cX8_pair 6 = .ok (.iload_n 1, 1) := by decide +kernel
theorem dX8_pair_7 : decode cX8_pair 7 = .ok (.iload_n 2, 1) := by decide +kernel
theorem dX8_pair_8 : decode cX8_pair 8 = .ok (.iload_n 3, 1) := by decide +kernel
theorem dX8_pair_9 : decode cX8_pair 9 = .ok (.invokevirtual 146, 3) := by decide +kernel
theorem dX8_pair_12 : decode cX8_pair 12 = .ok (.invokevirtual 94, 3) := by decide +kernel
theorem dX8_pair_15 : decode cX8_pair 15 = .ok (.ireturn, 1) := by decide +kernel
theorem dX8_drop_0 : decode cX8_drop 0 = .ok (.aload_n 0, 1) := by decide +kernel
theorem dX8_drop_1 : decode cX8_drop 1 = .ok (.iload_n 1, 1) := by decide +kernel
theorem dX8_drop_2 : decode cX8_drop 2 = .ok (.invokevirtual 121, 3) := by decide +kernel
theorem dX8_drop_5 : decode cX8_drop 5 = .ok (.ifCond .eq 11, 3) := by decide +kernel
theorem dX8_drop_8 : decode cX8_drop 8 = .ok (.aload_n 0, 1) := by decide +kernel
theorem dX8_drop_9 : decode cX8_drop 9 = .ok (.iload_n 2, 1) := by decide +kernel
theorem dX8_drop_10 : decode cX8_drop 10 = .ok (.invokevirtual 121, 3) := by decide +kernel
theorem dX8_drop_13 : decode cX8_drop 13 = .ok (.ifCond .ne 9, 3) := by decide +kernel
theorem dX8_drop_16 : decode cX8_drop 16 = .ok (.aload_n 0, 1) := by decide +kernel
theorem dX8_drop_17 : decode cX8_drop 17 = .ok (.iconst 1, 1) := by decide +kernel
theorem dX8_drop_18 : decode cX8_drop 18 = .ok (.invokevirtual 87, 3) := by decide +kernel
theorem dX8_drop_21 : decode cX8_drop 21 = .ok (.ireturn, 1) := by decide +kernel
theorem dX8_drop_22 : decode cX8_drop 22 = .ok (.aload_n 0, 1) := by decide +kernel
theorem dX8_drop_23 : decode cX8_drop 23 = .ok (.getfield 7, 3) := by decide +kernel
theorem dX8_drop_26 : decode cX8_drop 26 = .ok (.bipush 77, 2) := by decide +kernel
theorem dX8_drop_28 : decode cX8_drop 28 = .ok (.iload_n 2, 1) := by decide +kernel
theorem dX8_drop_29 : decode cX8_drop 29 = .ok (.iadd, 1) := by decide +kernel
theorem dX8_drop_30 : decode cX8_drop 30 = .ok (.iaload, 1) := by decide +kernel
theorem dX8_drop_31 : decode cX8_drop 31 = .ok (.iload_n 1, 1) := by decide +kernel
theorem dX8_drop_32 : decode cX8_drop 32 = .ok (.invokestatic 127, 3) := by decide +kernel
theorem dX8_drop_35 : decode cX8_drop 35 = .ok (.ifCond .ne 19, 3) := by decide +kernel
theorem dX8_drop_38 : decode cX8_drop 38 = .ok (.aload_n 0, 1) := by decide +kernel
theorem dX8_drop_39 : decode cX8_drop 39 = .ok (.getfield 7, 3) := by decide +kernel
theorem dX8_drop_42 : decode cX8_drop 42 = .ok (.bipush 77, 2) := by decide +kernel
theorem dX8_drop_44 : decode cX8_drop 44 = .ok (.iload_n 1, 1) := by decide +kernel
theorem dX8_drop_45 : decode cX8_drop 45 = .ok (.iadd, 1) := by decide +kernel
theorem dX8_drop_46 : decode cX8_drop 46 = .ok (.iaload, 1) := by decide +kernel
theorem dX8_drop_47 : decode cX8_drop 47 = .ok (.iload_n 2, 1) := by decide +kernel
theorem dX8_drop_48 : decode cX8_drop 48 = .ok (.invokestatic 127, 3) := by decide +kernel
theorem dX8_drop_51 : decode cX8_drop 51 = .ok (.ifCond .eq 7, 3) := by decide +kernel
theorem dX8_drop_54 : decode cX8_drop 54 = .ok (.iconst 1, 1) := by decide +kernel
theorem dX8_drop_55 : decode cX8_drop 55 = .ok (.goto 4, 3) := by decide +kernel
theorem dX8_drop_58 : decode cX8_drop 58 = .ok (.iconst 0, 1) := by decide +kernel
theorem dX8_drop_59 : decode cX8_drop 59 = .ok (.istore_n 3, 1) := by decide +kernel
theorem dX8_drop_60 : decode cX8_drop 60 = .ok (.aload_n 0, 1) := by decide +kernel
theorem dX8_drop_61 : decode cX8_drop 61 = .ok (.iload_n 1, 1) := by decide +kernel
theorem dX8_drop_62 : decode cX8_drop 62 = .ok (.iload_n 2, 1) := by decide +kernel
theorem dX8_drop_63 : decode cX8_drop 63 = .ok (.invokevirtual 139, 3) := by decide +kernel
theorem dX8_drop_66 : decode cX8_drop 66 = .ok (.istore 4, 2) := by decide +kernel
theorem dX8_drop_68 : decode cX8_drop 68 = .ok (.iload_n 3, 1) := by decide +kernel
theorem dX8_drop_69 : decode cX8_drop 69 = .ok (.ifCond .ne 14, 3) := by decide +kernel
theorem dX8_drop_72 : decode cX8_drop 72 = .ok (.iload 4, 2) := by decide +kernel
theorem dX8_drop_74 : decode cX8_drop 74 = .ok (.ifCond .ne 9, 3) := by decide +kernel
theorem dX8_drop_77 : decode cX8_drop 77 = .ok (.aload_n 0, 1) := by decide +kernel
theorem dX8_drop_78 : decode cX8_drop 78 = .ok (.iconst 2, 1) := by decide +kernel
theorem dX8_drop_79 : decode cX8_drop 79 = .ok (.invokevirtual 87, 3) := by decide +kernel
theorem dX8_drop_82 : decode cX8_drop 82 = .ok (.ireturn, 1) := by decide +kernel
theorem dX8_drop_83 : decode cX8_drop 83 = .ok (.aload_n 0, 1) := by decide +kernel
theorem dX8_drop_84 : decode cX8_drop 84 = .ok (.invokevirtual 84, 3) := by decide +kernel
theorem dX8_drop_87 : decode cX8_drop 87 = .ok (.aload_n 0, 1) := by decide +kernel
theorem dX8_drop_88 : decode cX8_drop 88 = .ok (.getfield 7, 3) := by decide +kernel
theorem dX8_drop_91 : decode cX8_drop 91 = .ok (.bipush 77, 2) := by decide +kernel
theorem dX8_drop_93 : decode cX8_drop 93 = .ok (.iload_n 2, 1) := by decide +kernel
theorem dX8_drop_94 : decode cX8_drop 94 = .ok (.iadd, 1) := by decide +kernel
theorem dX8_drop_95 : decode cX8_drop 95 = .ok (.dup2, 1) := by decide +kernel
theorem dX8_drop_96 : decode cX8_drop 96 = .ok (.iaload, 1) := by decide +kernel
theorem dX8_drop_97 : decode cX8_drop 97 = .ok (.iconst 1, 1) := by decide +kernel
theorem dX8_drop_98 : decode cX8_drop 98 = .ok (.iload_n 1, 1) := by decide +kernel
theorem dX8_drop_99 : decode cX8_drop 99 = .ok (.ishl, 1) := by decide +kernel
theorem dX8_drop_100 : decode cX8_drop 100 = .ok (.iconst (-1), 1) := by decide +kernel
theorem dX8_drop_101 : decode cX8_drop 101 = .ok (.ixor, 1) := by decide +kernel
theorem dX8_drop_102 : decode cX8_drop 102 = .ok (.iand, 1) := by decide +kernel
theorem dX8_drop_103 : decode cX8_drop 103 = .ok (.iastore, 1) := by decide +kernel
theorem dX8_drop_104 : decode cX8_drop 104 = .ok (.aload_n 0, 1) := by decide +kernel
theorem dX8_drop_105 : decode cX8_drop 105 = .ok (.getfield 7, 3) := by decide +kernel
theorem dX8_drop_108 : decode cX8_drop 108 = .ok (.bipush 77, 2) := by decide +kernel
theorem dX8_drop_110 : decode cX8_drop 110 = .ok (.iload_n 1, 1) := by decide +kernel
theorem dX8_drop_111 : decode cX8_drop 111 = .ok (.iadd, 1) := by decide +kernel
theorem dX8_drop_112 : decode cX8_drop 112 = .ok (.dup2, 1) := by decide +kernel
theorem dX8_drop_113 : decode cX8_drop 113 = .ok (.iaload, 1) := by decide +kernel
theorem dX8_drop_114 : decode cX8_drop 114 = .ok (.iconst 1, 1) := by decide +kernel
theorem dX8_drop_115 : decode cX8_drop 115 = .ok (.iload_n 2, 1) := by decide +kernel
theorem dX8_drop_116 : decode cX8_drop 116 = .ok (.ishl, 1) := by decide +kernel
theorem dX8_drop_117 : decode cX8_drop 117 = .ok (.iconst (-1), 1) := by decide +kernel
theorem dX8_drop_118 : decode cX8_drop 118 = .ok (.ixor, 1) := by decide +kernel
theorem dX8_drop_119 : decode cX8_drop 119 = .ok (.iand, 1) := by decide +kernel
theorem dX8_drop_120 : decode cX8_drop 120 = .ok (.iastore, 1) := by decide +kernel
theorem dX8_drop_121 : decode cX8_drop 121 = .ok (.aload_n 0, 1) := by decide +kernel
theorem dX8_drop_122 : decode cX8_drop 122 = .ok (.iload_n 1, 1) := by decide +kernel
theorem dX8_drop_123 : decode cX8_drop 123 = .ok (.iload_n 2, 1) := by decide +kernel
theorem dX8_drop_124 : decode cX8_drop 124 = .ok (.invokevirtual 142, 3) := by decide +kernel
theorem dX8_drop_127 : decode cX8_drop 127 = .ok (.aload_n 0, 1) := by decide +kernel
theorem dX8_drop_128 : decode cX8_drop 128 = .ok (.aload_n 0, 1) := by decide +kernel
theorem dX8_drop_129 : decode cX8_drop 129 = .ok (.iload_n 3, 1) := by decide +kernel
theorem dX8_drop_130 : decode cX8_drop 130 = .ok (.ifCond .eq 7, 3) := by decide +kernel
theorem dX8_drop_133 : decode cX8_drop 133 = .ok (.iconst 1, 1) := by decide +kernel
theorem dX8_drop_134 : decode cX8_drop 134 = .ok (.goto 4, 3) := by decide +kernel
theorem dX8_drop_137 : decode cX8_drop 137 = .ok (.iconst 0, 1) := by decide +kernel
theorem dX8_drop_138 : decode cX8_drop 138 = .ok (.iload 4, 2) := by decide +kernel
theorem dX8_drop_140 : decode cX8_drop 140 = .ok (.ifCond .eq 7, 3) := by decide +kernel
theorem dX8_drop_143 : decode cX8_drop 143 = .ok (.iconst 2, 1) := by decide +kernel
theorem dX8_drop_144 : decode cX8_drop 144 = .ok (.goto 4, 3) := by decide +kernel
theorem dX8_drop_147 : decode cX8_drop 147 = .ok (.iconst 0, 1) := by decide +kernel
theorem dX8_drop_148 : decode cX8_drop 148 = .ok (.iadd, 1) := by decide +kernel
theorem dX8_drop_149 : decode cX8_drop 149 = .ok (.invokevirtual 91, 3) := by decide +kernel
theorem dX8_drop_152 : decode cX8_drop 152 = .ok (.invokevirtual 94, 3) := by decide +kernel
theorem dX8_drop_155 : decode cX8_drop 155 = .ok (.ireturn, 1) := by decide +kernel
theorem dX8_weighted_0 : decode cX8_weighted 0 = .ok (.iconst 0, 1) := by decide +kernel
theorem dX8_weighted_1 : decode cX8_weighted 1 = .ok (.istore_n 2, 1) := by decide +kernel
theorem dX8_weighted_2 : decode cX8_weighted 2 = .ok (.iconst 0, 1) := by decide +kernel
theorem dX8_weighted_3 : decode cX8_weighted 3 = .ok (.istore_n 3, 1) := by decide +kernel
theorem dX8_weighted_4 : decode cX8_weighted 4 = .ok (.iload_n 3, 1) := by decide +kernel
theorem dX8_weighted_5 : decode cX8_weighted 5 = .ok (.aload_n 0, 1) := by decide +kernel
theorem dX8_weighted_6 : decode cX8_weighted 6 = .ok (.getfield 7, 3) := by decide +kernel
theorem dX8_weighted_9 : decode cX8_weighted 9 = .ok (.iconst 0, 1) := by decide +kernel
theorem dX8_weighted_10 : decode cX8_weighted 10 = .ok (.iaload, 1) := by decide +kernel
theorem dX8_weighted_11 : decode cX8_weighted 11 = .ok (.if_icmp .ge 27, 3) := by decide +kernel
theorem dX8_weighted_14 : decode cX8_weighted 14 = .ok (.iload_n 2, 1) := by decide +kernel
theorem dX8_weighted_15 : decode cX8_weighted 15 = .ok (.aload_n 0, 1) := by decide +kernel
theorem dX8_weighted_16 : decode cX8_weighted 16 = .ok (.getfield 7, 3) := by decide +kernel
theorem dX8_weighted_19 : decode cX8_weighted 19 = .ok (.iconst 1, 1) := by decide +kernel
theorem dX8_weighted_20 : decode cX8_weighted 20 = .ok (.iload_n 3, 1) := by decide +kernel
theorem dX8_weighted_21 : decode cX8_weighted 21 = .ok (.iadd, 1) := by decide +kernel
theorem dX8_weighted_22 : decode cX8_weighted 22 = .ok (.iaload, 1) := by decide +kernel
theorem dX8_weighted_23 : decode cX8_weighted 23 = .ok (.aload_n 0, 1) := by decide +kernel
theorem dX8_weighted_24 : decode cX8_weighted 24 = .ok (.iload_n 1, 1) := by decide +kernel
theorem dX8_weighted_25 : decode cX8_weighted 25 = .ok (.iload_n 3, 1) := by decide +kernel
theorem dX8_weighted_26 : decode cX8_weighted 26 = .ok (.invokevirtual 124, 3) := by decide +kernel
theorem dX8_weighted_29 : decode cX8_weighted 29 = .ok (.imul, 1) := by decide +kernel
theorem dX8_weighted_30 : decode cX8_weighted 30 = .ok (.iadd, 1) := by decide +kernel
theorem dX8_weighted_31 : decode cX8_weighted 31 = .ok (.istore_n 2, 1) := by decide +kernel
theorem dX8_weighted_32 : decode cX8_weighted 32 = .ok (.iinc 3 1, 3) := by decide +kernel
theorem dX8_weighted_35 : decode cX8_weighted 35 = .ok (.goto (-31), 3) := by decide +kernel
theorem dX8_weighted_38 : decode cX8_weighted 38 = .ok (.iload_n 2, 1) := by decide +kernel
theorem dX8_weighted_39 : decode cX8_weighted 39 = .ok (.ireturn, 1) := by decide +kernel
theorem dX8_task_0 : decode cX8_task 0 = .ok (.aload_n 0, 1) := by decide +kernel
theorem dX8_task_1 : decode cX8_task 1 = .ok (.iload_n 1, 1) := by decide +kernel
theorem dX8_task_2 : decode cX8_task 2 = .ok (.invokevirtual 121, 3) := by decide +kernel
theorem dX8_task_5 : decode cX8_task 5 = .ok (.ifCond .eq 13, 3) := by decide +kernel
theorem dX8_task_8 : decode cX8_task 8 = .ok (.iload_n 2, 1) := by decide +kernel
theorem dX8_task_9 : decode cX8_task 9 = .ok (.iconst 0, 1) := by decide +kernel
theorem dX8_task_10 : decode cX8_task 10 = .ok (.bipush 11, 2) := by decide +kernel
theorem dX8_task_12 : decode cX8_task 12 = .ok (.invokestatic 74, 3) := by decide +kernel
theorem dX8_task_15 : decode cX8_task 15 = .ok (.ifCond .ne 21, 3) := by decide +kernel
theorem dX8_task_18 : decode cX8_task 18 = .ok (.aload_n 0, 1) := by decide +kernel
theorem dX8_task_19 : decode cX8_task 19 = .ok (.aload_n 0, 1) := by decide +kernel
theorem dX8_task_20 : decode cX8_task 20 = .ok (.iload_n 1, 1) := by decide +kernel
theorem dX8_task_21 : decode cX8_task 21 = .ok (.invokevirtual 121, 3) := by decide +kernel
theorem dX8_task_24 : decode cX8_task 24 = .ok (.ifCond .ne 7, 3) := by decide +kernel
theorem dX8_task_27 : decode cX8_task 27 = .ok (.iconst 1, 1) := by decide +kernel
theorem dX8_task_28 : decode cX8_task 28 = .ok (.goto 4, 3) := by decide +kernel
theorem dX8_task_31 : decode cX8_task 31 = .ok (.iconst 2, 1) := by decide +kernel
theorem dX8_task_32 : decode cX8_task 32 = .ok (.invokevirtual 87, 3) := by decide +kernel
theorem dX8_task_35 : decode cX8_task 35 = .ok (.ireturn, 1) := by decide +kernel
theorem dX8_task_36 : decode cX8_task 36 = .ok (.iload_n 2, 1) := by decide +kernel
theorem dX8_task_37 : decode cX8_task 37 = .ok (.tableswitch 153 0 10 #[59, 59, 59, 59, 70, 80, 91, 101, 111, 125, 139], 59) := by decide +kernel
theorem dX8_task_96 : decode cX8_task 96 = .ok (.aload_n 0, 1) := by decide +kernel
theorem dX8_task_97 : decode cX8_task 97 = .ok (.aload_n 0, 1) := by decide +kernel
theorem dX8_task_98 : decode cX8_task 98 = .ok (.iload_n 1, 1) := by decide +kernel
theorem dX8_task_99 : decode cX8_task 99 = .ok (.iload_n 2, 1) := by decide +kernel
theorem dX8_task_100 : decode cX8_task 100 = .ok (.invokevirtual 124, 3) := by decide +kernel
theorem dX8_task_103 : decode cX8_task 103 = .ok (.invokevirtual 91, 3) := by decide +kernel
theorem dX8_task_106 : decode cX8_task 106 = .ok (.ireturn, 1) := by decide +kernel
theorem dX8_task_107 : decode cX8_task 107 = .ok (.aload_n 0, 1) := by decide +kernel
theorem dX8_task_108 : decode cX8_task 108 = .ok (.aload_n 0, 1) := by decide +kernel
theorem dX8_task_109 : decode cX8_task 109 = .ok (.iload_n 1, 1) := by decide +kernel
theorem dX8_task_110 : decode cX8_task 110 = .ok (.invokevirtual 150, 3) := by decide +kernel
theorem dX8_task_113 : decode cX8_task 113 = .ok (.invokevirtual 91, 3) := by decide +kernel
theorem dX8_task_116 : decode cX8_task 116 = .ok (.ireturn, 1) := by decide +kernel
theorem dX8_task_117 : decode cX8_task 117 = .ok (.aload_n 0, 1) := by decide +kernel
theorem dX8_task_118 : decode cX8_task 118 = .ok (.aload_n 0, 1) := by decide +kernel
theorem dX8_task_119 : decode cX8_task 119 = .ok (.iload_n 1, 1) := by decide +kernel
theorem dX8_task_120 : decode cX8_task 120 = .ok (.iconst 4, 1) := by decide +kernel
theorem dX8_task_121 : decode cX8_task 121 = .ok (.invokevirtual 124, 3) := by decide +kernel
theorem dX8_task_124 : decode cX8_task 124 = .ok (.invokevirtual 91, 3) := by decide +kernel
theorem dX8_task_127 : decode cX8_task 127 = .ok (.ireturn, 1) := by decide +kernel
theorem dX8_task_128 : decode cX8_task 128 = .ok (.aload_n 0, 1) := by decide +kernel
theorem dX8_task_129 : decode cX8_task 129 = .ok (.aload_n 0, 1) := by decide +kernel
theorem dX8_task_130 : decode cX8_task 130 = .ok (.iload_n 1, 1) := by decide +kernel
theorem dX8_task_131 : decode cX8_task 131 = .ok (.invokevirtual 130, 3) := by decide +kernel
theorem dX8_task_134 : decode cX8_task 134 = .ok (.invokevirtual 91, 3) := by decide +kernel
theorem dX8_task_137 : decode cX8_task 137 = .ok (.ireturn, 1) := by decide +kernel
theorem dX8_task_138 : decode cX8_task 138 = .ok (.aload_n 0, 1) := by decide +kernel
theorem dX8_task_139 : decode cX8_task 139 = .ok (.aload_n 0, 1) := by decide +kernel
theorem dX8_task_140 : decode cX8_task 140 = .ok (.iload_n 1, 1) := by decide +kernel
theorem dX8_task_141 : decode cX8_task 141 = .ok (.invokevirtual 153, 3) := by decide +kernel
theorem dX8_task_144 : decode cX8_task 144 = .ok (.invokevirtual 91, 3) := by decide +kernel
theorem dX8_task_147 : decode cX8_task 147 = .ok (.ireturn, 1) := by decide +kernel
theorem dX8_task_148 : decode cX8_task 148 = .ok (.aload_n 0, 1) := by decide +kernel
theorem dX8_task_149 : decode cX8_task 149 = .ok (.aload_n 0, 1) := by decide +kernel
theorem dX8_task_150 : decode cX8_task 150 = .ok (.getfield 7, 3) := by decide +kernel
theorem dX8_task_153 : decode cX8_task 153 = .ok (.bipush 77, 2) := by decide +kernel
theorem dX8_task_155 : decode cX8_task 155 = .ok (.iload_n 1, 1) := by decide +kernel
theorem dX8_task_156 : decode cX8_task 156 = .ok (.iadd, 1) := by decide +kernel
theorem dX8_task_157 : decode cX8_task 157 = .ok (.iaload, 1) := by decide +kernel
theorem dX8_task_158 : decode cX8_task 158 = .ok (.invokevirtual 91, 3) := by decide +kernel
theorem dX8_task_161 : decode cX8_task 161 = .ok (.ireturn, 1) := by decide +kernel
theorem dX8_task_162 : decode cX8_task 162 = .ok (.aload_n 0, 1) := by decide +kernel
theorem dX8_task_163 : decode cX8_task 163 = .ok (.aload_n 0, 1) := by decide +kernel
theorem dX8_task_164 : decode cX8_task 164 = .ok (.getfield 7, 3) := by decide +kernel
theorem dX8_task_167 : decode cX8_task 167 = .ok (.bipush 89, 2) := by decide +kernel
theorem dX8_task_169 : decode cX8_task 169 = .ok (.iload_n 1, 1) := by decide +kernel
theorem dX8_task_170 : decode cX8_task 170 = .ok (.iadd, 1) := by decide +kernel
theorem dX8_task_171 : decode cX8_task 171 = .ok (.iaload, 1) := by decide +kernel
theorem dX8_task_172 : decode cX8_task 172 = .ok (.invokevirtual 91, 3) := by decide +kernel
theorem dX8_task_175 : decode cX8_task 175 = .ok (.ireturn, 1) := by decide +kernel
theorem dX8_task_176 : decode cX8_task 176 = .ok (.aload_n 0, 1) := by decide +kernel
theorem dX8_task_177 : decode cX8_task 177 = .ok (.aload_n 0, 1) := by decide +kernel
theorem dX8_task_178 : decode cX8_task 178 = .ok (.getfield 7, 3) := by decide +kernel
theorem dX8_task_181 : decode cX8_task 181 = .ok (.bipush 101, 2) := by decide +kernel
theorem dX8_task_183 : decode cX8_task 183 = .ok (.iload_n 1, 1) := by decide +kernel
theorem dX8_task_184 : decode cX8_task 184 = .ok (.iadd, 1) := by decide +kernel
theorem dX8_task_185 : decode cX8_task 185 = .ok (.iaload, 1) := by decide +kernel
theorem dX8_task_186 : decode cX8_task 186 = .ok (.invokevirtual 91, 3) := by decide +kernel
theorem dX8_task_189 : decode cX8_task 189 = .ok (.ireturn, 1) := by decide +kernel
theorem dX8_task_190 : decode cX8_task 190 = .ok (.aload_n 0, 1) := by decide +kernel
theorem dX8_task_191 : decode cX8_task 191 = .ok (.aload_n 0, 1) := by decide +kernel
theorem dX8_task_192 : decode cX8_task 192 = .ok (.iload_n 1, 1) := by decide +kernel
theorem dX8_task_193 : decode cX8_task 193 = .ok (.invokevirtual 156, 3) := by decide +kernel
theorem dX8_task_196 : decode cX8_task 196 = .ok (.invokevirtual 91, 3) := by decide +kernel
theorem dX8_task_199 : decode cX8_task 199 = .ok (.ireturn, 1) := by decide +kernel
theorem dX8_worth_0 : decode cX8_worth 0 = .ok (.aload_n 0, 1) := by decide +kernel
theorem dX8_worth_1 : decode cX8_worth 1 = .ok (.iload_n 1, 1) := by decide +kernel
theorem dX8_worth_2 : decode cX8_worth 2 = .ok (.invokevirtual 153, 3) := by decide +kernel
theorem dX8_worth_5 : decode cX8_worth 5 = .ok (.istore_n 3, 1) := by decide +kernel
theorem dX8_worth_6 : decode cX8_worth 6 = .ok (.aload_n 0, 1) := by decide +kernel
theorem dX8_worth_7 : decode cX8_worth 7 = .ok (.iload_n 1, 1) := by decide +kernel
theorem dX8_worth_8 : decode cX8_worth 8 = .ok (.invokevirtual 150, 3) := by decide +kernel
theorem dX8_worth_11 : decode cX8_worth 11 = .ok (.istore 4, 2) := by decide +kernel
theorem dX8_worth_13 : decode cX8_worth 13 = .ok (.iload_n 2, 1) := by decide +kernel
theorem dX8_worth_14 : decode cX8_worth 14 = .ok (.tableswitch 82 0 2 #[26, 74, 77], 26) := by decide +kernel
theorem dX8_worth_40 : decode cX8_worth 40 = .ok (.iconst 0, 1) := by decide +kernel
theorem dX8_worth_41 : decode cX8_worth 41 = .ok (.istore 5, 2) := by decide +kernel
theorem dX8_worth_43 : decode cX8_worth 43 = .ok (.iload 5, 2) := by decide +kernel
theorem dX8_worth_45 : decode cX8_worth 45 = .ok (.aload_n 0, 1) := by decide +kernel
theorem dX8_worth_46 : decode cX8_worth 46 = .ok (.getfield 7, 3) := by decide +kernel
theorem dX8_worth_49 : decode cX8_worth 49 = .ok (.bipush 16, 2) := by decide +kernel
theorem dX8_worth_51 : decode cX8_worth 51 = .ok (.iaload, 1) := by decide +kernel
theorem dX8_worth_52 : decode cX8_worth 52 = .ok (.if_icmp .ge 33, 3) := by decide +kernel
theorem dX8_worth_55 : decode cX8_worth 55 = .ok (.iload 4, 2) := by decide +kernel
theorem dX8_worth_57 : decode cX8_worth 57 = .ok (.iload_n 3, 1) := by decide +kernel
theorem dX8_worth_58 : decode cX8_worth 58 = .ok (.iload 5, 2) := by decide +kernel
theorem dX8_worth_60 : decode cX8_worth 60 = .ok (.invokestatic 127, 3) := by decide +kernel
theorem dX8_worth_63 : decode cX8_worth 63 = .ok (.ifCond .eq 12, 3) := by decide +kernel
theorem dX8_worth_66 : decode cX8_worth 66 = .ok (.aload_n 0, 1) := by decide +kernel
theorem dX8_worth_67 : decode cX8_worth 67 = .ok (.iload 5, 2) := by decide +kernel
theorem dX8_worth_69 : decode cX8_worth 69 = .ok (.invokevirtual 150, 3) := by decide +kernel
theorem dX8_worth_72 : decode cX8_worth 72 = .ok (.goto 4, 3) := by decide +kernel
theorem dX8_worth_75 : decode cX8_worth 75 = .ok (.iconst 0, 1) := by decide +kernel
theorem dX8_worth_76 : decode cX8_worth 76 = .ok (.iadd, 1) := by decide +kernel
theorem dX8_worth_77 : decode cX8_worth 77 = .ok (.istore 4, 2) := by decide +kernel
theorem dX8_worth_79 : decode cX8_worth 79 = .ok (.iinc 5 1, 3) := by decide +kernel
theorem dX8_worth_82 : decode cX8_worth 82 = .ok (.goto (-39), 3) := by decide +kernel
theorem dX8_worth_85 : decode cX8_worth 85 = .ok (.iload 4, 2) := by decide +kernel
theorem dX8_worth_87 : decode cX8_worth 87 = .ok (.ireturn, 1) := by decide +kernel
theorem dX8_worth_88 : decode cX8_worth 88 = .ok (.iload 4, 2) := by decide +kernel
theorem dX8_worth_90 : decode cX8_worth 90 = .ok (.ireturn, 1) := by decide +kernel
theorem dX8_worth_91 : decode cX8_worth 91 = .ok (.iload_n 3, 1) := by decide +kernel
theorem dX8_worth_92 : decode cX8_worth 92 = .ok (.invokestatic 133, 3) := by decide +kernel
theorem dX8_worth_95 : decode cX8_worth 95 = .ok (.ireturn, 1) := by decide +kernel
theorem dX8_worth_96 : decode cX8_worth 96 = .ok (.iconst 0, 1) := by decide +kernel
theorem dX8_worth_97 : decode cX8_worth 97 = .ok (.ireturn, 1) := by decide +kernel
theorem dX8_priority_0 : decode cX8_priority 0 = .ok (.aload_n 0, 1) := by decide +kernel
theorem dX8_priority_1 : decode cX8_priority 1 = .ok (.iload_n 1, 1) := by decide +kernel
theorem dX8_priority_2 : decode cX8_priority 2 = .ok (.invokevirtual 121, 3) := by decide +kernel
theorem dX8_priority_5 : decode cX8_priority 5 = .ok (.ifCond .eq 12, 3) := by decide +kernel
theorem dX8_priority_8 : decode cX8_priority 8 = .ok (.iload_n 2, 1) := by decide +kernel
theorem dX8_priority_9 : decode cX8_priority 9 = .ok (.iconst 0, 1) := by decide +kernel
theorem dX8_priority_10 : decode cX8_priority 10 = .ok (.iconst 3, 1) := by decide +kernel
theorem dX8_priority_11 : decode cX8_priority 11 = .ok (.invokestatic 74, 3) := by decide +kernel
theorem dX8_priority_14 : decode cX8_priority 14 = .ok (.ifCond .ne 21, 3) := by decide +kernel
theorem dX8_priority_17 : decode cX8_priority 17 = .ok (.aload_n 0, 1) := by decide +kernel
theorem dX8_priority_18 : decode cX8_priority 18 = .ok (.aload_n 0, 1) := by decide +kernel
theorem dX8_priority_19 : decode cX8_priority 19 = .ok (.iload_n 1, 1) := by decide +kernel
theorem dX8_priority_20 : decode cX8_priority 20 = .ok (.invokevirtual 121, 3) := by decide +kernel
theorem dX8_priority_23 : decode cX8_priority 23 = .ok (.ifCond .ne 7, 3) := by decide +kernel
theorem dX8_priority_26 : decode cX8_priority 26 = .ok (.iconst 1, 1) := by decide +kernel
theorem dX8_priority_27 : decode cX8_priority 27 = .ok (.goto 4, 3) := by decide +kernel
theorem dX8_priority_30 : decode cX8_priority 30 = .ok (.iconst 2, 1) := by decide +kernel
theorem dX8_priority_31 : decode cX8_priority 31 = .ok (.invokevirtual 87, 3) := by decide +kernel
theorem dX8_priority_34 : decode cX8_priority 34 = .ok (.ireturn, 1) := by decide +kernel
theorem dX8_priority_35 : decode cX8_priority 35 = .ok (.aload_n 0, 1) := by decide +kernel
theorem dX8_priority_36 : decode cX8_priority 36 = .ok (.aload_n 0, 1) := by decide +kernel
theorem dX8_priority_37 : decode cX8_priority 37 = .ok (.iload_n 1, 1) := by decide +kernel
theorem dX8_priority_38 : decode cX8_priority 38 = .ok (.iload_n 2, 1) := by decide +kernel
theorem dX8_priority_39 : decode cX8_priority 39 = .ok (.invokevirtual 159, 3) := by decide +kernel
theorem dX8_priority_42 : decode cX8_priority 42 = .ok (.invokevirtual 91, 3) := by decide +kernel
theorem dX8_priority_45 : decode cX8_priority 45 = .ok (.ireturn, 1) := by decide +kernel
theorem dX8_size_0 : decode cX8_size 0 = .ok (.aload_n 0, 1) := by decide +kernel
theorem dX8_size_1 : decode cX8_size 1 = .ok (.aload_n 0, 1) := by decide +kernel
theorem dX8_size_2 : decode cX8_size 2 = .ok (.getfield 7, 3) := by decide +kernel
theorem dX8_size_5 : decode cX8_size 5 = .ok (.bipush 16, 2) := by decide +kernel
theorem dX8_size_7 : decode cX8_size 7 = .ok (.iaload, 1) := by decide +kernel
theorem dX8_size_8 : decode cX8_size 8 = .ok (.invokevirtual 91, 3) := by decide +kernel
theorem dX8_size_11 : decode cX8_size 11 = .ok (.ireturn, 1) := by decide +kernel
theorem dX8_tellRow_0 : decode cX8_tellRow 0 = .ok (.aload_n 0, 1) := by decide +kernel
theorem dX8_tellRow_1 : decode cX8_tellRow 1 = .ok (.iconst 0, 1) := by decide +kernel
theorem dX8_tellRow_2 : decode cX8_tellRow 2 = .ok (.putfield 162, 3) := by decide +kernel
theorem dX8_tellRow_5 : decode cX8_tellRow 5 = .ok (.iload_n 1, 1) := by decide +kernel
theorem dX8_tellRow_6 : decode cX8_tellRow 6 = .ok (.istore_n 2, 1) := by decide +kernel
theorem dX8_tellRow_7 : decode cX8_tellRow 7 = .ok (.iload_n 2, 1) := by decide +kernel
theorem dX8_tellRow_8 : decode cX8_tellRow 8 = .ok (.ifCond .eq 85, 3) := by decide +kernel
theorem dX8_tellRow_11 : decode cX8_tellRow 11 = .ok (.iconst (-1), 1) := by decide +kernel
theorem dX8_tellRow_12 : decode cX8_tellRow 12 = .ok (.istore_n 3, 1) := by decide +kernel
theorem dX8_tellRow_13 : decode cX8_tellRow 13 = .ok (.aload_n 0, 1) := by decide +kernel
theorem dX8_tellRow_14 : decode cX8_tellRow 14 = .ok (.getfield 7, 3) := by decide +kernel
theorem dX8_tellRow_17 : decode cX8_tellRow 17 = .ok (.bipush 16, 2) := by decide +kernel
theorem dX8_tellRow_19 : decode cX8_tellRow 19 = .ok (.iaload, 1) := by decide +kernel
theorem dX8_tellRow_20 : decode cX8_tellRow 20 = .ok (.iconst 1, 1) := by decide +kernel
theorem dX8_tellRow_21 : decode cX8_tellRow 21 = .ok (.isub, 1) := by decide +kernel
theorem dX8_tellRow_22 : decode cX8_tellRow 22 = .ok (.istore 4, 2) := by decide +kernel
theorem dX8_tellRow_24 : decode cX8_tellRow 24 = .ok (.iload 4, 2) := by decide +kernel
theorem dX8_tellRow_26 : decode cX8_tellRow 26 = .ok (.ifCond .lt 36, 3) := by decide +kernel
theorem dX8_tellRow_29 : decode cX8_tellRow 29 = .ok (.iload_n 2, 1) := by decide +kernel
theorem dX8_tellRow_30 : decode cX8_tellRow 30 = .ok (.iload 4, 2) := by decide +kernel
theorem dX8_tellRow_32 : decode cX8_tellRow 32 = .ok (.invokestatic 127, 3) := by decide +kernel
theorem dX8_tellRow_35 : decode cX8_tellRow 35 = .ok (.ifCond .eq 19, 3) := by decide +kernel
theorem dX8_tellRow_38 : decode cX8_tellRow 38 = .ok (.aload_n 0, 1) := by decide +kernel
theorem dX8_tellRow_39 : decode cX8_tellRow 39 = .ok (.iload 4, 2) := by decide +kernel
theorem dX8_tellRow_41 : decode cX8_tellRow 41 = .ok (.invokevirtual 130, 3) := by decide +kernel
theorem dX8_tellRow_44 : decode cX8_tellRow 44 = .ok (.iload_n 2, 1) := by decide +kernel
theorem dX8_tellRow_45 : decode cX8_tellRow 45 = .ok (.iand, 1) := by decide +kernel
theorem dX8_tellRow_46 : decode cX8_tellRow 46 = .ok (.ifCond .ne 8, 3) := by decide +kernel
theorem dX8_tellRow_49 : decode cX8_tellRow 49 = .ok (.iload 4, 2) := by decide +kernel
theorem dX8_tellRow_51 : decode cX8_tellRow 51 = .ok (.goto 4, 3) := by decide +kernel
theorem dX8_tellRow_54 : decode cX8_tellRow 54 = .ok (.iload_n 3, 1) := by decide +kernel
theorem dX8_tellRow_55 : decode cX8_tellRow 55 = .ok (.istore_n 3, 1) := by decide +kernel
theorem dX8_tellRow_56 : decode cX8_tellRow 56 = .ok (.iinc 4 (-1), 3) := by decide +kernel
theorem dX8_tellRow_59 : decode cX8_tellRow 59 = .ok (.goto (-35), 3) := by decide +kernel
theorem dX8_tellRow_62 : decode cX8_tellRow 62 = .ok (.aload_n 0, 1) := by decide +kernel
theorem dX8_tellRow_63 : decode cX8_tellRow 63 = .ok (.getfield 22, 3) := by decide +kernel
theorem dX8_tellRow_66 : decode cX8_tellRow 66 = .ok (.aload_n 0, 1) := by decide +kernel
theorem dX8_tellRow_67 : decode cX8_tellRow 67 = .ok (.getfield 162, 3) := by decide +kernel
theorem dX8_tellRow_70 : decode cX8_tellRow 70 = .ok (.iload_n 3, 1) := by decide +kernel
theorem dX8_tellRow_71 : decode cX8_tellRow 71 = .ok (.iastore, 1) := by decide +kernel
theorem dX8_tellRow_72 : decode cX8_tellRow 72 = .ok (.aload_n 0, 1) := by decide +kernel
theorem dX8_tellRow_73 : decode cX8_tellRow 73 = .ok (.dup, 1) := by decide +kernel
theorem dX8_tellRow_74 : decode cX8_tellRow 74 = .ok (.getfield 162, 3) := by decide +kernel
theorem dX8_tellRow_77 : decode cX8_tellRow 77 = .ok (.iconst 1, 1) := by decide +kernel
theorem dX8_tellRow_78 : decode cX8_tellRow 78 = .ok (.iadd, 1) := by decide +kernel
theorem dX8_tellRow_79 : decode cX8_tellRow 79 = .ok (.putfield 162, 3) := by decide +kernel
theorem dX8_tellRow_82 : decode cX8_tellRow 82 = .ok (.iload_n 2, 1) := by decide +kernel
theorem dX8_tellRow_83 : decode cX8_tellRow 83 = .ok (.iconst 1, 1) := by decide +kernel
theorem dX8_tellRow_84 : decode cX8_tellRow 84 = .ok (.iload_n 3, 1) := by decide +kernel
theorem dX8_tellRow_85 : decode cX8_tellRow 85 = .ok (.ishl, 1) := by decide +kernel
theorem dX8_tellRow_86 : decode cX8_tellRow 86 = .ok (.iconst (-1), 1) := by decide +kernel
theorem dX8_tellRow_87 : decode cX8_tellRow 87 = .ok (.ixor, 1) := by decide +kernel
theorem dX8_tellRow_88 : decode cX8_tellRow 88 = .ok (.iand, 1) := by decide +kernel
theorem dX8_tellRow_89 : decode cX8_tellRow 89 = .ok (.istore_n 2, 1) := by decide +kernel
theorem dX8_tellRow_90 : decode cX8_tellRow 90 = .ok (.goto (-83), 3) := by decide +kernel
theorem dX8_tellRow_93 : decode cX8_tellRow 93 = .ok (.return_, 1) := by decide +kernel
theorem dX8_changes_0 : decode cX8_changes 0 = .ok (.iconst 0, 1) := by decide +kernel
theorem dX8_changes_1 : decode cX8_changes 1 = .ok (.istore_n 2, 1) := by decide +kernel
theorem dX8_changes_2 : decode cX8_changes 2 = .ok (.iconst 0, 1) := by decide +kernel
theorem dX8_changes_3 : decode cX8_changes 3 = .ok (.istore_n 3, 1) := by decide +kernel
theorem dX8_changes_4 : decode cX8_changes 4 = .ok (.iload_n 3, 1) := by decide +kernel
theorem dX8_changes_5 : decode cX8_changes 5 = .ok (.aload_n 0, 1) := by decide +kernel
theorem dX8_changes_6 : decode cX8_changes 6 = .ok (.getfield 162, 3) := by decide +kernel
theorem dX8_changes_9 : decode cX8_changes 9 = .ok (.if_icmp .ge 88, 3) := by decide +kernel
theorem dX8_changes_12 : decode cX8_changes 12 = .ok (.aload_n 0, 1) := by decide +kernel
theorem dX8_changes_13 : decode cX8_changes 13 = .ok (.aload_n 0, 1) := by decide +kernel
theorem dX8_changes_14 : decode cX8_changes 14 = .ok (.getfield 22, 3) := by decide +kernel
theorem dX8_changes_17 : decode cX8_changes 17 = .ok (.iload_n 3, 1) := by decide +kernel
theorem dX8_changes_18 : decode cX8_changes 18 = .ok (.iaload, 1) := by decide +kernel
theorem dX8_changes_19 : decode cX8_changes 19 = .ok (.iload_n 1, 1) := by decide +kernel
theorem dX8_changes_20 : decode cX8_changes 20 = .ok (.invokevirtual 124, 3) := by decide +kernel
theorem dX8_changes_23 : decode cX8_changes 23 = .ok (.ifCond .le 21, 3) := by decide +kernel
theorem dX8_changes_26 : decode cX8_changes 26 = .ok (.aload_n 0, 1) := by decide +kernel
theorem dX8_changes_27 : decode cX8_changes 27 = .ok (.aload_n 0, 1) := by decide +kernel
theorem dX8_changes_28 : decode cX8_changes 28 = .ok (.getfield 22, 3) := by decide +kernel
theorem dX8_changes_31 : decode cX8_changes 31 = .ok (.iload_n 3, 1) := by decide +kernel
theorem dX8_changes_32 : decode cX8_changes 32 = .ok (.iaload, 1) := by decide +kernel
theorem dX8_changes_33 : decode cX8_changes 33 = .ok (.iconst 3, 1) := by decide +kernel
theorem dX8_changes_34 : decode cX8_changes 34 = .ok (.invokevirtual 124, 3) := by decide +kernel
theorem dX8_changes_37 : decode cX8_changes 37 = .ok (.ifCond .eq 7, 3) := by decide +kernel
theorem dX8_changes_40 : decode cX8_changes 40 = .ok (.iconst 1, 1) := by decide +kernel
theorem dX8_changes_41 : decode cX8_changes 41 = .ok (.goto 4, 3) := by decide +kernel
theorem dX8_changes_44 : decode cX8_changes 44 = .ok (.iconst 0, 1) := by decide +kernel
theorem dX8_changes_45 : decode cX8_changes 45 = .ok (.istore 4, 2) := by decide +kernel
theorem dX8_changes_47 : decode cX8_changes 47 = .ok (.aload_n 0, 1) := by decide +kernel
theorem dX8_changes_48 : decode cX8_changes 48 = .ok (.getfield 25, 3) := by decide +kernel
theorem dX8_changes_51 : decode cX8_changes 51 = .ok (.iload_n 2, 1) := by decide +kernel
theorem dX8_changes_52 : decode cX8_changes 52 = .ok (.iload 4, 2) := by decide +kernel
theorem dX8_changes_54 : decode cX8_changes 54 = .ok (.ifCond .eq 17, 3) := by decide +kernel
theorem dX8_changes_57 : decode cX8_changes 57 = .ok (.aload_n 0, 1) := by decide +kernel
theorem dX8_changes_58 : decode cX8_changes 58 = .ok (.aload_n 0, 1) := by decide +kernel
theorem dX8_changes_59 : decode cX8_changes 59 = .ok (.getfield 22, 3) := by decide +kernel
theorem dX8_changes_62 : decode cX8_changes 62 = .ok (.iload_n 3, 1) := by decide +kernel
theorem dX8_changes_63 : decode cX8_changes 63 = .ok (.iaload, 1) := by decide +kernel
theorem dX8_changes_64 : decode cX8_changes 64 = .ok (.iconst 3, 1) := by decide +kernel
theorem dX8_changes_65 : decode cX8_changes 65 = .ok (.invokevirtual 124, 3) := by decide +kernel
theorem dX8_changes_68 : decode cX8_changes 68 = .ok (.goto 9, 3) := by decide +kernel
theorem dX8_changes_71 : decode cX8_changes 71 = .ok (.aload_n 0, 1) := by decide +kernel
theorem dX8_changes_72 : decode cX8_changes 72 = .ok (.getfield 25, 3) := by decide +kernel
theorem dX8_changes_75 : decode cX8_changes 75 = .ok (.iload_n 2, 1) := by decide +kernel
theorem dX8_changes_76 : decode cX8_changes 76 = .ok (.iaload, 1) := by decide +kernel
theorem dX8_changes_77 : decode cX8_changes 77 = .ok (.iastore, 1) := by decide +kernel
theorem dX8_changes_78 : decode cX8_changes 78 = .ok (.iload_n 2, 1) := by decide +kernel
theorem dX8_changes_79 : decode cX8_changes 79 = .ok (.iload 4, 2) := by decide +kernel
theorem dX8_changes_81 : decode cX8_changes 81 = .ok (.ifCond .eq 7, 3) := by decide +kernel
theorem dX8_changes_84 : decode cX8_changes 84 = .ok (.iconst 1, 1) := by decide +kernel
theorem dX8_changes_85 : decode cX8_changes 85 = .ok (.goto 4, 3) := by decide +kernel
theorem dX8_changes_88 : decode cX8_changes 88 = .ok (.iconst 0, 1) := by decide +kernel
theorem dX8_changes_89 : decode cX8_changes 89 = .ok (.iadd, 1) := by decide +kernel
theorem dX8_changes_90 : decode cX8_changes 90 = .ok (.istore_n 2, 1) := by decide +kernel
theorem dX8_changes_91 : decode cX8_changes 91 = .ok (.iinc 3 1, 3) := by decide +kernel
theorem dX8_changes_94 : decode cX8_changes 94 = .ok (.goto (-90), 3) := by decide +kernel
theorem dX8_changes_97 : decode cX8_changes 97 = .ok (.iconst 0, 1) := by decide +kernel
theorem dX8_changes_98 : decode cX8_changes 98 = .ok (.istore_n 3, 1) := by decide +kernel
theorem dX8_changes_99 : decode cX8_changes 99 = .ok (.iconst 0, 1) := by decide +kernel
theorem dX8_changes_100 : decode cX8_changes 100 = .ok (.istore 4, 2) := by decide +kernel
theorem dX8_changes_102 : decode cX8_changes 102 = .ok (.iload 4, 2) := by decide +kernel
theorem dX8_changes_104 : decode cX8_changes 104 = .ok (.iload_n 2, 1) := by decide +kernel
theorem dX8_changes_105 : decode cX8_changes 105 = .ok (.if_icmp .ge 48, 3) := by decide +kernel
theorem dX8_changes_108 : decode cX8_changes 108 = .ok (.iload_n 3, 1) := by decide +kernel
theorem dX8_changes_109 : decode cX8_changes 109 = .ok (.aload_n 0, 1) := by decide +kernel
theorem dX8_changes_110 : decode cX8_changes 110 = .ok (.getfield 25, 3) := by decide +kernel
theorem dX8_changes_113 : decode cX8_changes 113 = .ok (.iload 4, 2) := by decide +kernel
theorem dX8_changes_115 : decode cX8_changes 115 = .ok (.iaload, 1) := by decide +kernel
theorem dX8_changes_116 : decode cX8_changes 116 = .ok (.aload_n 0, 1) := by decide +kernel
theorem dX8_changes_117 : decode cX8_changes 117 = .ok (.getfield 25, 3) := by decide +kernel
theorem dX8_changes_120 : decode cX8_changes 120 = .ok (.iload 4, 2) := by decide +kernel
theorem dX8_changes_122 : decode cX8_changes 122 = .ok (.iconst 1, 1) := by decide +kernel
theorem dX8_changes_123 : decode cX8_changes 123 = .ok (.iadd, 1) := by decide +kernel
theorem dX8_changes_124 : decode cX8_changes 124 = .ok (.iload_n 2, 1) := by decide +kernel
theorem dX8_changes_125 : decode cX8_changes 125 = .ok (.if_icmp .ne 7, 3) := by decide +kernel
theorem dX8_changes_128 : decode cX8_changes 128 = .ok (.iconst 0, 1) := by decide +kernel
theorem dX8_changes_129 : decode cX8_changes 129 = .ok (.goto 7, 3) := by decide +kernel
theorem dX8_changes_132 : decode cX8_changes 132 = .ok (.iload 4, 2) := by decide +kernel
theorem dX8_changes_134 : decode cX8_changes 134 = .ok (.iconst 1, 1) := by decide +kernel
theorem dX8_changes_135 : decode cX8_changes 135 = .ok (.iadd, 1) := by decide +kernel
theorem dX8_changes_136 : decode cX8_changes 136 = .ok (.iaload, 1) := by decide +kernel
theorem dX8_changes_137 : decode cX8_changes 137 = .ok (.if_icmp .eq 7, 3) := by decide +kernel
theorem dX8_changes_140 : decode cX8_changes 140 = .ok (.iconst 1, 1) := by decide +kernel
theorem dX8_changes_141 : decode cX8_changes 141 = .ok (.goto 4, 3) := by decide +kernel
theorem dX8_changes_144 : decode cX8_changes 144 = .ok (.iconst 0, 1) := by decide +kernel
theorem dX8_changes_145 : decode cX8_changes 145 = .ok (.iadd, 1) := by decide +kernel
theorem dX8_changes_146 : decode cX8_changes 146 = .ok (.istore_n 3, 1) := by decide +kernel
theorem dX8_changes_147 : decode cX8_changes 147 = .ok (.iinc 4 1, 3) := by decide +kernel
theorem dX8_changes_150 : decode cX8_changes 150 = .ok (.goto (-48), 3) := by decide +kernel
theorem dX8_changes_153 : decode cX8_changes 153 = .ok (.iload_n 3, 1) := by decide +kernel
theorem dX8_changes_154 : decode cX8_changes 154 = .ok (.ireturn, 1) := by decide +kernel
theorem dX8_timeOf_0 : decode cX8_timeOf 0 = .ok (.aload_n 0, 1) := by decide +kernel
theorem dX8_timeOf_1 : decode cX8_timeOf 1 = .ok (.iload_n 1, 1) := by decide +kernel
theorem dX8_timeOf_2 : decode cX8_timeOf 2 = .ok (.invokevirtual 165, 3) := by decide +kernel
theorem dX8_timeOf_5 : decode cX8_timeOf 5 = .ok (.aload_n 0, 1) := by decide +kernel
theorem dX8_timeOf_6 : decode cX8_timeOf 6 = .ok (.getfield 7, 3) := by decide +kernel
theorem dX8_timeOf_9 : decode cX8_timeOf 9 = .ok (.iconst 5, 1) := by decide +kernel
theorem dX8_timeOf_10 : decode cX8_timeOf 10 = .ok (.iaload, 1) := by decide +kernel
theorem dX8_timeOf_11 : decode cX8_timeOf 11 = .ok (.imul, 1) := by decide +kernel
theorem dX8_timeOf_12 : decode cX8_timeOf 12 = .ok (.istore_n 2, 1) := by decide +kernel
theorem dX8_timeOf_13 : decode cX8_timeOf 13 = .ok (.iconst 0, 1) := by decide +kernel
theorem dX8_timeOf_14 : decode cX8_timeOf 14 = .ok (.istore_n 3, 1) := by decide +kernel
theorem dX8_timeOf_15 : decode cX8_timeOf 15 = .ok (.iload_n 3, 1) := by decide +kernel
theorem dX8_timeOf_16 : decode cX8_timeOf 16 = .ok (.aload_n 0, 1) := by decide +kernel
theorem dX8_timeOf_17 : decode cX8_timeOf 17 = .ok (.getfield 162, 3) := by decide +kernel
theorem dX8_timeOf_20 : decode cX8_timeOf 20 = .ok (.if_icmp .ge 23, 3) := by decide +kernel
theorem dX8_timeOf_23 : decode cX8_timeOf 23 = .ok (.iload_n 2, 1) := by decide +kernel
theorem dX8_timeOf_24 : decode cX8_timeOf 24 = .ok (.aload_n 0, 1) := by decide +kernel
theorem dX8_timeOf_25 : decode cX8_timeOf 25 = .ok (.aload_n 0, 1) := by decide +kernel
theorem dX8_timeOf_26 : decode cX8_timeOf 26 = .ok (.getfield 22, 3) := by decide +kernel
theorem dX8_timeOf_29 : decode cX8_timeOf 29 = .ok (.iload_n 3, 1) := by decide +kernel
theorem dX8_timeOf_30 : decode cX8_timeOf 30 = .ok (.iaload, 1) := by decide +kernel
theorem dX8_timeOf_31 : decode cX8_timeOf 31 = .ok (.iload_n 1, 1) := by decide +kernel
theorem dX8_timeOf_32 : decode cX8_timeOf 32 = .ok (.invokevirtual 124, 3) := by decide +kernel
theorem dX8_timeOf_35 : decode cX8_timeOf 35 = .ok (.iadd, 1) := by decide +kernel
theorem dX8_timeOf_36 : decode cX8_timeOf 36 = .ok (.istore_n 2, 1) := by decide +kernel
theorem dX8_timeOf_37 : decode cX8_timeOf 37 = .ok (.iinc 3 1, 3) := by decide +kernel
theorem dX8_timeOf_40 : decode cX8_timeOf 40 = .ok (.goto (-25), 3) := by decide +kernel
theorem dX8_timeOf_43 : decode cX8_timeOf 43 = .ok (.iload_n 2, 1) := by decide +kernel
theorem dX8_timeOf_44 : decode cX8_timeOf 44 = .ok (.ireturn, 1) := by decide +kernel
theorem dX8_loadOf_0 : decode cX8_loadOf 0 = .ok (.aload_n 0, 1) := by decide +kernel
theorem dX8_loadOf_1 : decode cX8_loadOf 1 = .ok (.iload_n 1, 1) := by decide +kernel
theorem dX8_loadOf_2 : decode cX8_loadOf 2 = .ok (.invokevirtual 168, 3) := by decide +kernel
theorem dX8_loadOf_5 : decode cX8_loadOf 5 = .ok (.iconst 0, 1) := by decide +kernel
theorem dX8_loadOf_6 : decode cX8_loadOf 6 = .ok (.istore_n 2, 1) := by decide +kernel
theorem dX8_loadOf_7 : decode cX8_loadOf 7 = .ok (.iconst 0, 1) := by decide +kernel
theorem dX8_loadOf_8 : decode cX8_loadOf 8 = .ok (.istore_n 3, 1) := by decide +kernel
theorem dX8_loadOf_9 : decode cX8_loadOf 9 = .ok (.iload_n 3, 1) := by decide +kernel
theorem dX8_loadOf_10 : decode cX8_loadOf 10 = .ok (.aload_n 0, 1) := by decide +kernel
theorem dX8_loadOf_11 : decode cX8_loadOf 11 = .ok (.getfield 7, 3) := by decide +kernel
theorem dX8_loadOf_14 : decode cX8_loadOf 14 = .ok (.iconst 0, 1) := by decide +kernel
theorem dX8_loadOf_15 : decode cX8_loadOf 15 = .ok (.iaload, 1) := by decide +kernel
theorem dX8_loadOf_16 : decode cX8_loadOf 16 = .ok (.if_icmp .ge 26, 3) := by decide +kernel
theorem dX8_loadOf_19 : decode cX8_loadOf 19 = .ok (.iload_n 2, 1) := by decide +kernel
theorem dX8_loadOf_20 : decode cX8_loadOf 20 = .ok (.aload_n 0, 1) := by decide +kernel
theorem dX8_loadOf_21 : decode cX8_loadOf 21 = .ok (.getfield 7, 3) := by decide +kernel
theorem dX8_loadOf_24 : decode cX8_loadOf 24 = .ok (.iconst 1, 1) := by decide +kernel
theorem dX8_loadOf_25 : decode cX8_loadOf 25 = .ok (.iload_n 3, 1) := by decide +kernel
theorem dX8_loadOf_26 : decode cX8_loadOf 26 = .ok (.iadd, 1) := by decide +kernel
theorem dX8_loadOf_27 : decode cX8_loadOf 27 = .ok (.iaload, 1) := by decide +kernel
theorem dX8_loadOf_28 : decode cX8_loadOf 28 = .ok (.aload_n 0, 1) := by decide +kernel
theorem dX8_loadOf_29 : decode cX8_loadOf 29 = .ok (.iload_n 3, 1) := by decide +kernel
theorem dX8_loadOf_30 : decode cX8_loadOf 30 = .ok (.invokevirtual 172, 3) := by decide +kernel
theorem dX8_loadOf_33 : decode cX8_loadOf 33 = .ok (.imul, 1) := by decide +kernel
theorem dX8_loadOf_34 : decode cX8_loadOf 34 = .ok (.iadd, 1) := by decide +kernel
theorem dX8_loadOf_35 : decode cX8_loadOf 35 = .ok (.istore_n 2, 1) := by decide +kernel
theorem dX8_loadOf_36 : decode cX8_loadOf 36 = .ok (.iinc 3 1, 3) := by decide +kernel
theorem dX8_loadOf_39 : decode cX8_loadOf 39 = .ok (.goto (-30), 3) := by decide +kernel
theorem dX8_loadOf_42 : decode cX8_loadOf 42 = .ok (.iload_n 2, 1) := by decide +kernel
theorem dX8_loadOf_43 : decode cX8_loadOf 43 = .ok (.ireturn, 1) := by decide +kernel
theorem dX8_fits_0 : decode cX8_fits 0 = .ok (.aload_n 0, 1) := by decide +kernel
theorem dX8_fits_1 : decode cX8_fits 1 = .ok (.getfield 7, 3) := by decide +kernel
theorem dX8_fits_4 : decode cX8_fits 4 = .ok (.bipush 7, 2) := by decide +kernel
theorem dX8_fits_6 : decode cX8_fits 6 = .ok (.iaload, 1) := by decide +kernel
theorem dX8_fits_7 : decode cX8_fits 7 = .ok (.ifCond .ne 30, 3) := by decide +kernel
theorem dX8_fits_10 : decode cX8_fits 10 = .ok (.aload_n 0, 1) := by decide +kernel
theorem dX8_fits_11 : decode cX8_fits 11 = .ok (.iload_n 1, 1) := by decide +kernel
theorem dX8_fits_12 : decode cX8_fits 12 = .ok (.invokevirtual 175, 3) := by decide +kernel
theorem dX8_fits_15 : decode cX8_fits 15 = .ok (.iload_n 2, 1) := by decide +kernel
theorem dX8_fits_16 : decode cX8_fits 16 = .ok (.aload_n 0, 1) := by decide +kernel
theorem dX8_fits_17 : decode cX8_fits 17 = .ok (.getfield 7, 3) := by decide +kernel
theorem dX8_fits_20 : decode cX8_fits 20 = .ok (.iconst 4, 1) := by decide +kernel
theorem dX8_fits_21 : decode cX8_fits 21 = .ok (.iaload, 1) := by decide +kernel
theorem dX8_fits_22 : decode cX8_fits 22 = .ok (.imul, 1) := by decide +kernel
theorem dX8_fits_23 : decode cX8_fits 23 = .ok (.aload_n 0, 1) := by decide +kernel
theorem dX8_fits_24 : decode cX8_fits 24 = .ok (.invokevirtual 105, 3) := by decide +kernel
theorem dX8_fits_27 : decode cX8_fits 27 = .ok (.imul, 1) := by decide +kernel
theorem dX8_fits_28 : decode cX8_fits 28 = .ok (.if_icmp .gt 7, 3) := by decide +kernel
theorem dX8_fits_31 : decode cX8_fits 31 = .ok (.iconst 1, 1) := by decide +kernel
theorem dX8_fits_32 : decode cX8_fits 32 = .ok (.goto 4, 3) := by decide +kernel
theorem dX8_fits_35 : decode cX8_fits 35 = .ok (.iconst 0, 1) := by decide +kernel
theorem dX8_fits_36 : decode cX8_fits 36 = .ok (.ireturn, 1) := by decide +kernel
theorem dX8_fits_37 : decode cX8_fits 37 = .ok (.aload_n 0, 1) := by decide +kernel
theorem dX8_fits_38 : decode cX8_fits 38 = .ok (.iload_n 1, 1) := by decide +kernel
theorem dX8_fits_39 : decode cX8_fits 39 = .ok (.invokevirtual 168, 3) := by decide +kernel
theorem dX8_fits_42 : decode cX8_fits 42 = .ok (.iconst 1, 1) := by decide +kernel
theorem dX8_fits_43 : decode cX8_fits 43 = .ok (.istore_n 3, 1) := by decide +kernel
theorem dX8_fits_44 : decode cX8_fits 44 = .ok (.iconst 0, 1) := by decide +kernel
theorem dX8_fits_45 : decode cX8_fits 45 = .ok (.istore 4, 2) := by decide +kernel
theorem dX8_fits_47 : decode cX8_fits 47 = .ok (.iload 4, 2) := by decide +kernel
theorem dX8_fits_49 : decode cX8_fits 49 = .ok (.aload_n 0, 1) := by decide +kernel
theorem dX8_fits_50 : decode cX8_fits 50 = .ok (.getfield 7, 3) := by decide +kernel
theorem dX8_fits_53 : decode cX8_fits 53 = .ok (.iconst 0, 1) := by decide +kernel
theorem dX8_fits_54 : decode cX8_fits 54 = .ok (.iaload, 1) := by decide +kernel
theorem dX8_fits_55 : decode cX8_fits 55 = .ok (.if_icmp .ge 36, 3) := by decide +kernel
theorem dX8_fits_58 : decode cX8_fits 58 = .ok (.iload_n 3, 1) := by decide +kernel
theorem dX8_fits_59 : decode cX8_fits 59 = .ok (.ifCond .eq 24, 3) := by decide +kernel
theorem dX8_fits_62 : decode cX8_fits 62 = .ok (.aload_n 0, 1) := by decide +kernel
theorem dX8_fits_63 : decode cX8_fits 63 = .ok (.iload 4, 2) := by decide +kernel
theorem dX8_fits_65 : decode cX8_fits 65 = .ok (.invokevirtual 172, 3) := by decide +kernel
theorem dX8_fits_68 : decode cX8_fits 68 = .ok (.iload_n 2, 1) := by decide +kernel
theorem dX8_fits_69 : decode cX8_fits 69 = .ok (.aload_n 0, 1) := by decide +kernel
theorem dX8_fits_70 : decode cX8_fits 70 = .ok (.getfield 7, 3) := by decide +kernel
theorem dX8_fits_73 : decode cX8_fits 73 = .ok (.iconst 4, 1) := by decide +kernel
theorem dX8_fits_74 : decode cX8_fits 74 = .ok (.iaload, 1) := by decide +kernel
theorem dX8_fits_75 : decode cX8_fits 75 = .ok (.imul, 1) := by decide +kernel
theorem dX8_fits_76 : decode cX8_fits 76 = .ok (.if_icmp .gt 7, 3) := by decide +kernel
theorem dX8_fits_79 : decode cX8_fits 79 = .ok (.iconst 1, 1) := by decide +kernel
theorem dX8_fits_80 : decode cX8_fits 80 = .ok (.goto 4, 3) := by decide +kernel
theorem dX8_fits_83 : decode cX8_fits 83 = .ok (.iconst 0, 1) := by decide +kernel
theorem dX8_fits_84 : decode cX8_fits 84 = .ok (.istore_n 3, 1) := by decide +kernel
theorem dX8_fits_85 : decode cX8_fits 85 = .ok (.iinc 4 1, 3) := by decide +kernel
theorem dX8_fits_88 : decode cX8_fits 88 = .ok (.goto (-41), 3) := by decide +kernel
theorem dX8_fits_91 : decode cX8_fits 91 = .ok (.iload_n 3, 1) := by decide +kernel
theorem dX8_fits_92 : decode cX8_fits 92 = .ok (.ireturn, 1) := by decide +kernel
theorem dX8_toolsOf_0 : decode cX8_toolsOf 0 = .ok (.iconst 0, 1) := by decide +kernel
theorem dX8_toolsOf_1 : decode cX8_toolsOf 1 = .ok (.istore_n 2, 1) := by decide +kernel
theorem dX8_toolsOf_2 : decode cX8_toolsOf 2 = .ok (.iconst 0, 1) := by decide +kernel
theorem dX8_toolsOf_3 : decode cX8_toolsOf 3 = .ok (.istore_n 3, 1) := by decide +kernel
theorem dX8_toolsOf_4 : decode cX8_toolsOf 4 = .ok (.iload_n 3, 1) := by decide +kernel
theorem dX8_toolsOf_5 : decode cX8_toolsOf 5 = .ok (.aload_n 0, 1) := by decide +kernel
theorem dX8_toolsOf_6 : decode cX8_toolsOf 6 = .ok (.getfield 7, 3) := by decide +kernel
theorem dX8_toolsOf_9 : decode cX8_toolsOf 9 = .ok (.bipush 16, 2) := by decide +kernel
theorem dX8_toolsOf_11 : decode cX8_toolsOf 11 = .ok (.iaload, 1) := by decide +kernel
theorem dX8_toolsOf_12 : decode cX8_toolsOf 12 = .ok (.if_icmp .ge 32, 3) := by decide +kernel
theorem dX8_toolsOf_15 : decode cX8_toolsOf 15 = .ok (.iload_n 2, 1) := by decide +kernel
theorem dX8_toolsOf_16 : decode cX8_toolsOf 16 = .ok (.iload_n 1, 1) := by decide +kernel
theorem dX8_toolsOf_17 : decode cX8_toolsOf 17 = .ok (.iload_n 3, 1) := by decide +kernel
theorem dX8_toolsOf_18 : decode cX8_toolsOf 18 = .ok (.invokestatic 127, 3) := by decide +kernel
theorem dX8_toolsOf_21 : decode cX8_toolsOf 21 = .ok (.ifCond .eq 14, 3) := by decide +kernel
theorem dX8_toolsOf_24 : decode cX8_toolsOf 24 = .ok (.iconst 1, 1) := by decide +kernel
theorem dX8_toolsOf_25 : decode cX8_toolsOf 25 = .ok (.aload_n 0, 1) := by decide +kernel
theorem dX8_toolsOf_26 : decode cX8_toolsOf 26 = .ok (.iload_n 3, 1) := by decide +kernel
theorem dX8_toolsOf_27 : decode cX8_toolsOf 27 = .ok (.iconst 3, 1) := by decide +kernel
theorem dX8_toolsOf_28 : decode cX8_toolsOf 28 = .ok (.invokevirtual 124, 3) := by decide +kernel
theorem dX8_toolsOf_31 : decode cX8_toolsOf 31 = .ok (.ishl, 1) := by decide +kernel
theorem dX8_toolsOf_32 : decode cX8_toolsOf 32 = .ok (.goto 4, 3) := by decide +kernel
theorem dX8_toolsOf_35 : decode cX8_toolsOf 35 = .ok (.iconst 0, 1) := by decide +kernel
theorem dX8_toolsOf_36 : decode cX8_toolsOf 36 = .ok (.ior, 1) := by decide +kernel
theorem dX8_toolsOf_37 : decode cX8_toolsOf 37 = .ok (.istore_n 2, 1) := by decide +kernel
theorem dX8_toolsOf_38 : decode cX8_toolsOf 38 = .ok (.iinc 3 1, 3) := by decide +kernel
theorem dX8_toolsOf_41 : decode cX8_toolsOf 41 = .ok (.goto (-37), 3) := by decide +kernel
theorem dX8_toolsOf_44 : decode cX8_toolsOf 44 = .ok (.iload_n 2, 1) := by decide +kernel
theorem dX8_toolsOf_45 : decode cX8_toolsOf 45 = .ok (.bipush (-2), 2) := by decide +kernel
theorem dX8_toolsOf_47 : decode cX8_toolsOf 47 = .ok (.iand, 1) := by decide +kernel
theorem dX8_toolsOf_48 : decode cX8_toolsOf 48 = .ok (.ireturn, 1) := by decide +kernel
theorem dX8_inStation_0 : decode cX8_inStation 0 = .ok (.iconst 0, 1) := by decide +kernel
theorem dX8_inStation_1 : decode cX8_inStation 1 = .ok (.istore_n 2, 1) := by decide +kernel
theorem dX8_inStation_2 : decode cX8_inStation 2 = .ok (.iconst 0, 1) := by decide +kernel
theorem dX8_inStation_3 : decode cX8_inStation 3 = .ok (.istore_n 3, 1) := by decide +kernel
theorem dX8_inStation_4 : decode cX8_inStation 4 = .ok (.iload_n 3, 1) := by decide +kernel
theorem dX8_inStation_5 : decode cX8_inStation 5 = .ok (.aload_n 0, 1) := by decide +kernel
theorem dX8_inStation_6 : decode cX8_inStation 6 = .ok (.getfield 7, 3) := by decide +kernel
theorem dX8_inStation_9 : decode cX8_inStation 9 = .ok (.bipush 16, 2) := by decide +kernel
theorem dX8_inStation_11 : decode cX8_inStation 11 = .ok (.iaload, 1) := by decide +kernel
theorem dX8_inStation_12 : decode cX8_inStation 12 = .ok (.if_icmp .ge 29, 3) := by decide +kernel
theorem dX8_inStation_15 : decode cX8_inStation 15 = .ok (.iload_n 2, 1) := by decide +kernel
theorem dX8_inStation_16 : decode cX8_inStation 16 = .ok (.aload_n 0, 1) := by decide +kernel
theorem dX8_inStation_17 : decode cX8_inStation 17 = .ok (.iload_n 3, 1) := by decide +kernel
theorem dX8_inStation_18 : decode cX8_inStation 18 = .ok (.iconst 4, 1) := by decide +kernel
theorem dX8_inStation_19 : decode cX8_inStation 19 = .ok (.invokevirtual 124, 3) := by decide +kernel
theorem dX8_inStation_22 : decode cX8_inStation 22 = .ok (.iload_n 1, 1) := by decide +kernel
theorem dX8_inStation_23 : decode cX8_inStation 23 = .ok (.if_icmp .ne 9, 3) := by decide +kernel
theorem dX8_inStation_26 : decode cX8_inStation 26 = .ok (.iconst 1, 1) := by decide +kernel
theorem dX8_inStation_27 : decode cX8_inStation 27 = .ok (.iload_n 3, 1) := by decide +kernel
theorem dX8_inStation_28 : decode cX8_inStation 28 = .ok (.ishl, 1) := by decide +kernel
theorem dX8_inStation_29 : decode cX8_inStation 29 = .ok (.goto 4, 3) := by decide +kernel
theorem dX8_inStation_32 : decode cX8_inStation 32 = .ok (.iconst 0, 1) := by decide +kernel
theorem dX8_inStation_33 : decode cX8_inStation 33 = .ok (.ior, 1) := by decide +kernel
theorem dX8_inStation_34 : decode cX8_inStation 34 = .ok (.istore_n 2, 1) := by decide +kernel
theorem dX8_inStation_35 : decode cX8_inStation 35 = .ok (.iinc 3 1, 3) := by decide +kernel
theorem dX8_inStation_38 : decode cX8_inStation 38 = .ok (.goto (-34), 3) := by decide +kernel
theorem dX8_inStation_41 : decode cX8_inStation 41 = .ok (.iload_n 2, 1) := by decide +kernel
theorem dX8_inStation_42 : decode cX8_inStation 42 = .ok (.ireturn, 1) := by decide +kernel
theorem dX8_refuses_0 : decode cX8_refuses 0 = .ok (.aload_n 0, 1) := by decide +kernel
theorem dX8_refuses_1 : decode cX8_refuses 1 = .ok (.iload_n 2, 1) := by decide +kernel
theorem dX8_refuses_2 : decode cX8_refuses 2 = .ok (.invokevirtual 178, 3) := by decide +kernel
theorem dX8_refuses_5 : decode cX8_refuses 5 = .ok (.iconst 1, 1) := by decide +kernel
theorem dX8_refuses_6 : decode cX8_refuses 6 = .ok (.iload_n 1, 1) := by decide +kernel
theorem dX8_refuses_7 : decode cX8_refuses 7 = .ok (.ishl, 1) := by decide +kernel
theorem dX8_refuses_8 : decode cX8_refuses 8 = .ok (.ior, 1) := by decide +kernel
theorem dX8_refuses_9 : decode cX8_refuses 9 = .ok (.istore_n 3, 1) := by decide +kernel
theorem dX8_refuses_10 : decode cX8_refuses 10 = .ok (.aload_n 0, 1) := by decide +kernel
theorem dX8_refuses_11 : decode cX8_refuses 11 = .ok (.iload_n 1, 1) := by decide +kernel
theorem dX8_refuses_12 : decode cX8_refuses 12 = .ok (.invokevirtual 130, 3) := by decide +kernel
theorem dX8_refuses_15 : decode cX8_refuses 15 = .ok (.istore 4, 2) := by decide +kernel
theorem dX8_refuses_17 : decode cX8_refuses 17 = .ok (.aload_n 0, 1) := by decide +kernel
theorem dX8_refuses_18 : decode cX8_refuses 18 = .ok (.iload_n 1, 1) := by decide +kernel
theorem dX8_refuses_19 : decode cX8_refuses 19 = .ok (.invokevirtual 153, 3) := by decide +kernel
theorem dX8_refuses_22 : decode cX8_refuses 22 = .ok (.istore 5, 2) := by decide +kernel
theorem dX8_refuses_24 : decode cX8_refuses 24 = .ok (.iconst 0, 1) := by decide +kernel
theorem dX8_refuses_25 : decode cX8_refuses 25 = .ok (.istore 6, 2) := by decide +kernel
theorem dX8_refuses_27 : decode cX8_refuses 27 = .ok (.iconst 0, 1) := by decide +kernel
theorem dX8_refuses_28 : decode cX8_refuses 28 = .ok (.istore 7, 2) := by decide +kernel
theorem dX8_refuses_30 : decode cX8_refuses 30 = .ok (.iconst 0, 1) := by decide +kernel
theorem dX8_refuses_31 : decode cX8_refuses 31 = .ok (.istore 8, 2) := by decide +kernel
theorem dX8_refuses_33 : decode cX8_refuses 33 = .ok (.iconst 0, 1) := by decide +kernel
theorem dX8_refuses_34 : decode cX8_refuses 34 = .ok (.istore 9, 2) := by decide +kernel
theorem dX8_refuses_36 : decode cX8_refuses 36 = .ok (.iload 9, 2) := by decide +kernel
theorem dX8_refuses_38 : decode cX8_refuses 38 = .ok (.aload_n 0, 1) := by decide +kernel
theorem dX8_refuses_39 : decode cX8_refuses 39 = .ok (.getfield 7, 3) := by decide +kernel
theorem dX8_refuses_42 : decode cX8_refuses 42 = .ok (.bipush 16, 2) := by decide +kernel
theorem dX8_refuses_44 : decode cX8_refuses 44 = .ok (.iaload, 1) := by decide +kernel
theorem dX8_refuses_45 : decode cX8_refuses 45 = .ok (.if_icmp .ge 119, 3) := by decide +kernel
theorem dX8_refuses_48 : decode cX8_refuses 48 = .ok (.aload_n 0, 1) := by decide +kernel
theorem dX8_refuses_49 : decode cX8_refuses 49 = .ok (.iload 9, 2) := by decide +kernel
theorem dX8_refuses_51 : decode cX8_refuses 51 = .ok (.iconst 4, 1) := by decide +kernel
theorem dX8_refuses_52 : decode cX8_refuses 52 = .ok (.invokevirtual 124, 3) := by decide +kernel
theorem dX8_refuses_55 : decode cX8_refuses 55 = .ok (.istore 10, 2) := by decide +kernel
theorem dX8_refuses_57 : decode cX8_refuses 57 = .ok (.iload 6, 2) := by decide +kernel
theorem dX8_refuses_59 : decode cX8_refuses 59 = .ok (.ifCond .ne 19, 3) := by decide +kernel
theorem dX8_refuses_62 : decode cX8_refuses 62 = .ok (.iload 4, 2) := by decide +kernel
theorem dX8_refuses_64 : decode cX8_refuses 64 = .ok (.iload 9, 2) := by decide +kernel
theorem dX8_refuses_66 : decode cX8_refuses 66 = .ok (.invokestatic 127, 3) := by decide +kernel
theorem dX8_refuses_69 : decode cX8_refuses 69 = .ok (.ifCond .eq 13, 3) := by decide +kernel
theorem dX8_refuses_72 : decode cX8_refuses 72 = .ok (.iload 10, 2) := by decide +kernel
theorem dX8_refuses_74 : decode cX8_refuses 74 = .ok (.iload_n 2, 1) := by decide +kernel
theorem dX8_refuses_75 : decode cX8_refuses 75 = .ok (.if_icmp .le 7, 3) := by decide +kernel
theorem dX8_refuses_78 : decode cX8_refuses 78 = .ok (.iconst 1, 1) := by decide +kernel
theorem dX8_refuses_79 : decode cX8_refuses 79 = .ok (.goto 4, 3) := by decide +kernel
theorem dX8_refuses_82 : decode cX8_refuses 82 = .ok (.iconst 0, 1) := by decide +kernel
theorem dX8_refuses_83 : decode cX8_refuses 83 = .ok (.istore 6, 2) := by decide +kernel
theorem dX8_refuses_85 : decode cX8_refuses 85 = .ok (.iload 7, 2) := by decide +kernel
theorem dX8_refuses_87 : decode cX8_refuses 87 = .ok (.ifCond .ne 24, 3) := by decide +kernel
theorem dX8_refuses_90 : decode cX8_refuses 90 = .ok (.iload 5, 2) := by decide +kernel
theorem dX8_refuses_92 : decode cX8_refuses 92 = .ok (.iload 9, 2) := by decide +kernel
theorem dX8_refuses_94 : decode cX8_refuses 94 = .ok (.invokestatic 127, 3) := by decide +kernel
theorem dX8_refuses_97 : decode cX8_refuses 97 = .ok (.ifCond .eq 18, 3) := by decide +kernel
theorem dX8_refuses_100 : decode cX8_refuses 100 = .ok (.iload 10, 2) := by decide +kernel
theorem dX8_refuses_102 : decode cX8_refuses 102 = .ok (.ifCond .lt 13, 3) := by decide +kernel
theorem dX8_refuses_105 : decode cX8_refuses 105 = .ok (.iload 10, 2) := by decide +kernel
theorem dX8_refuses_107 : decode cX8_refuses 107 = .ok (.iload_n 2, 1) := by decide +kernel
theorem dX8_refuses_108 : decode cX8_refuses 108 = .ok (.if_icmp .ge 7, 3) := by decide +kernel
theorem dX8_refuses_111 : decode cX8_refuses 111 = .ok (.iconst 1, 1) := by decide +kernel
theorem dX8_refuses_112 : decode cX8_refuses 112 = .ok (.goto 4, 3) := by decide +kernel
theorem dX8_refuses_115 : decode cX8_refuses 115 = .ok (.iconst 0, 1) := by decide +kernel
theorem dX8_refuses_116 : decode cX8_refuses 116 = .ok (.istore 7, 2) := by decide +kernel
theorem dX8_refuses_118 : decode cX8_refuses 118 = .ok (.iload 8, 2) := by decide +kernel
theorem dX8_refuses_120 : decode cX8_refuses 120 = .ok (.ifCond .ne 31, 3) := by decide +kernel
theorem dX8_refuses_123 : decode cX8_refuses 123 = .ok (.aload_n 0, 1) := by decide +kernel
theorem dX8_refuses_124 : decode cX8_refuses 124 = .ok (.getfield 7, 3) := by decide +kernel
theorem dX8_refuses_127 : decode cX8_refuses 127 = .ok (.bipush 101, 2) := by decide +kernel
theorem dX8_refuses_129 : decode cX8_refuses 129 = .ok (.iload_n 1, 1) := by decide +kernel
theorem dX8_refuses_130 : decode cX8_refuses 130 = .ok (.iadd, 1) := by decide +kernel
theorem dX8_refuses_131 : decode cX8_refuses 131 = .ok (.iaload, 1) := by decide +kernel
theorem dX8_refuses_132 : decode cX8_refuses 132 = .ok (.iload 9, 2) := by decide +kernel
theorem dX8_refuses_134 : decode cX8_refuses 134 = .ok (.invokestatic 127, 3) := by decide +kernel
theorem dX8_refuses_137 : decode cX8_refuses 137 = .ok (.ifCond .eq 18, 3) := by decide +kernel
theorem dX8_refuses_140 : decode cX8_refuses 140 = .ok (.iload 10, 2) := by decide +kernel
theorem dX8_refuses_142 : decode cX8_refuses 142 = .ok (.ifCond .lt 13, 3) := by decide +kernel
theorem dX8_refuses_145 : decode cX8_refuses 145 = .ok (.iload 10, 2) := by decide +kernel
theorem dX8_refuses_147 : decode cX8_refuses 147 = .ok (.iload_n 2, 1) := by decide +kernel
theorem dX8_refuses_148 : decode cX8_refuses 148 = .ok (.if_icmp .eq 7, 3) := by decide +kernel
theorem dX8_refuses_151 : decode cX8_refuses 151 = .ok (.iconst 1, 1) := by decide +kernel
theorem dX8_refuses_152 : decode cX8_refuses 152 = .ok (.goto 4, 3) := by decide +kernel
theorem dX8_refuses_155 : decode cX8_refuses 155 = .ok (.iconst 0, 1) := by decide +kernel
theorem dX8_refuses_156 : decode cX8_refuses 156 = .ok (.istore 8, 2) := by decide +kernel
theorem dX8_refuses_158 : decode cX8_refuses 158 = .ok (.iinc 9 1, 3) := by decide +kernel
theorem dX8_refuses_161 : decode cX8_refuses 161 = .ok (.goto (-125), 3) := by decide +kernel
theorem dX8_refuses_164 : decode cX8_refuses 164 = .ok (.iload 6, 2) := by decide +kernel
theorem dX8_refuses_166 : decode cX8_refuses 166 = .ok (.ifCond .ne 8, 3) := by decide +kernel
theorem dX8_refuses_169 : decode cX8_refuses 169 = .ok (.iload 7, 2) := by decide +kernel
theorem dX8_refuses_171 : decode cX8_refuses 171 = .ok (.ifCond .eq 14, 3) := by decide +kernel
theorem dX8_refuses_174 : decode cX8_refuses 174 = .ok (.iload 6, 2) := by decide +kernel
theorem dX8_refuses_176 : decode cX8_refuses 176 = .ok (.ifCond .eq 7, 3) := by decide +kernel
theorem dX8_refuses_179 : decode cX8_refuses 179 = .ok (.iconst 1, 1) := by decide +kernel
theorem dX8_refuses_180 : decode cX8_refuses 180 = .ok (.goto 4, 3) := by decide +kernel
theorem dX8_refuses_183 : decode cX8_refuses 183 = .ok (.iconst 2, 1) := by decide +kernel
theorem dX8_refuses_184 : decode cX8_refuses 184 = .ok (.ireturn, 1) := by decide +kernel
theorem dX8_refuses_185 : decode cX8_refuses 185 = .ok (.aload_n 0, 1) := by decide +kernel
theorem dX8_refuses_186 : decode cX8_refuses 186 = .ok (.getfield 7, 3) := by decide +kernel
theorem dX8_refuses_189 : decode cX8_refuses 189 = .ok (.bipush 89, 2) := by decide +kernel
theorem dX8_refuses_191 : decode cX8_refuses 191 = .ok (.iload_n 1, 1) := by decide +kernel
theorem dX8_refuses_192 : decode cX8_refuses 192 = .ok (.iadd, 1) := by decide +kernel
theorem dX8_refuses_193 : decode cX8_refuses 193 = .ok (.iaload, 1) := by decide +kernel
theorem dX8_refuses_194 : decode cX8_refuses 194 = .ok (.iload_n 3, 1) := by decide +kernel
theorem dX8_refuses_195 : decode cX8_refuses 195 = .ok (.iand, 1) := by decide +kernel
theorem dX8_refuses_196 : decode cX8_refuses 196 = .ok (.ifCond .eq 5, 3) := by decide +kernel
theorem dX8_refuses_199 : decode cX8_refuses 199 = .ok (.iconst 3, 1) := by decide +kernel
theorem dX8_refuses_200 : decode cX8_refuses 200 = .ok (.ireturn, 1) := by decide +kernel
theorem dX8_refuses_201 : decode cX8_refuses 201 = .ok (.iload 8, 2) := by decide +kernel
theorem dX8_refuses_203 : decode cX8_refuses 203 = .ok (.ifCond .eq 5, 3) := by decide +kernel
theorem dX8_refuses_206 : decode cX8_refuses 206 = .ok (.iconst 4, 1) := by decide +kernel
theorem dX8_refuses_207 : decode cX8_refuses 207 = .ok (.ireturn, 1) := by decide +kernel
theorem dX8_refuses_208 : decode cX8_refuses 208 = .ok (.aload_n 0, 1) := by decide +kernel
theorem dX8_refuses_209 : decode cX8_refuses 209 = .ok (.iload_n 3, 1) := by decide +kernel
theorem dX8_refuses_210 : decode cX8_refuses 210 = .ok (.invokevirtual 181, 3) := by decide +kernel
theorem dX8_refuses_213 : decode cX8_refuses 213 = .ok (.invokestatic 133, 3) := by decide +kernel
theorem dX8_refuses_216 : decode cX8_refuses 216 = .ok (.aload_n 0, 1) := by decide +kernel
theorem dX8_refuses_217 : decode cX8_refuses 217 = .ok (.getfield 7, 3) := by decide +kernel
theorem dX8_refuses_220 : decode cX8_refuses 220 = .ok (.bipush 6, 2) := by decide +kernel
theorem dX8_refuses_222 : decode cX8_refuses 222 = .ok (.iaload, 1) := by decide +kernel
theorem dX8_refuses_223 : decode cX8_refuses 223 = .ok (.if_icmp .le 7, 3) := by decide +kernel
theorem dX8_refuses_226 : decode cX8_refuses 226 = .ok (.iconst 5, 1) := by decide +kernel
theorem dX8_refuses_227 : decode cX8_refuses 227 = .ok (.goto 26, 3) := by decide +kernel
theorem dX8_refuses_230 : decode cX8_refuses 230 = .ok (.aload_n 0, 1) := by decide +kernel
theorem dX8_refuses_231 : decode cX8_refuses 231 = .ok (.iload_n 3, 1) := by decide +kernel
theorem dX8_refuses_232 : decode cX8_refuses 232 = .ok (.aload_n 0, 1) := by decide +kernel
theorem dX8_refuses_233 : decode cX8_refuses 233 = .ok (.getfield 7, 3) := by decide +kernel
theorem dX8_refuses_236 : decode cX8_refuses 236 = .ok (.bipush 8, 2) := by decide +kernel
theorem dX8_refuses_238 : decode cX8_refuses 238 = .ok (.iload_n 2, 1) := by decide +kernel
theorem dX8_refuses_239 : decode cX8_refuses 239 = .ok (.iadd, 1) := by decide +kernel
theorem dX8_refuses_240 : decode cX8_refuses 240 = .ok (.iaload, 1) := by decide +kernel
theorem dX8_refuses_241 : decode cX8_refuses 241 = .ok (.invokevirtual 184, 3) := by decide +kernel
theorem dX8_refuses_244 : decode cX8_refuses 244 = .ok (.ifCond .eq 7, 3) := by decide +kernel
theorem dX8_refuses_247 : decode cX8_refuses 247 = .ok (.iconst 0, 1) := by decide +kernel
theorem dX8_refuses_248 : decode cX8_refuses 248 = .ok (.goto 5, 3) := by decide +kernel
theorem dX8_refuses_251 : decode cX8_refuses 251 = .ok (.bipush 6, 2) := by decide +kernel
theorem dX8_refuses_253 : decode cX8_refuses 253 = .ok (.ireturn, 1) := by decide +kernel
theorem dX8_lowest_0 : decode cX8_lowest 0 = .ok (.iconst 0, 1) := by decide +kernel
theorem dX8_lowest_1 : decode cX8_lowest 1 = .ok (.istore_n 2, 1) := by decide +kernel
theorem dX8_lowest_2 : decode cX8_lowest 2 = .ok (.iload_n 2, 1) := by decide +kernel
theorem dX8_lowest_3 : decode cX8_lowest 3 = .ok (.bipush 8, 2) := by decide +kernel
theorem dX8_lowest_5 : decode cX8_lowest 5 = .ok (.if_icmp .ge 20, 3) := by decide +kernel
theorem dX8_lowest_8 : decode cX8_lowest 8 = .ok (.aload_n 0, 1) := by decide +kernel
theorem dX8_lowest_9 : decode cX8_lowest 9 = .ok (.iload_n 1, 1) := by decide +kernel
theorem dX8_lowest_10 : decode cX8_lowest 10 = .ok (.iload_n 2, 1) := by decide +kernel
theorem dX8_lowest_11 : decode cX8_lowest 11 = .ok (.invokevirtual 187, 3) := by decide +kernel
theorem dX8_lowest_14 : decode cX8_lowest 14 = .ok (.ifCond .ne 5, 3) := by decide +kernel
theorem dX8_lowest_17 : decode cX8_lowest 17 = .ok (.iload_n 2, 1) := by decide +kernel
theorem dX8_lowest_18 : decode cX8_lowest 18 = .ok (.ireturn, 1) := by decide +kernel
theorem dX8_lowest_19 : decode cX8_lowest 19 = .ok (.iinc 2 1, 3) := by decide +kernel
theorem dX8_lowest_22 : decode cX8_lowest 22 = .ok (.goto (-20), 3) := by decide +kernel
theorem dX8_lowest_25 : decode cX8_lowest 25 = .ok (.iconst (-1), 1) := by decide +kernel
theorem dX8_lowest_26 : decode cX8_lowest 26 = .ok (.ireturn, 1) := by decide +kernel
theorem dX8_assigns_0 : decode cX8_assigns 0 = .ok (.aload_n 0, 1) := by decide +kernel
theorem dX8_assigns_1 : decode cX8_assigns 1 = .ok (.iload_n 1, 1) := by decide +kernel
theorem dX8_assigns_2 : decode cX8_assigns 2 = .ok (.invokevirtual 121, 3) := by decide +kernel
theorem dX8_assigns_5 : decode cX8_assigns 5 = .ok (.ifCond .eq 13, 3) := by decide +kernel
theorem dX8_assigns_8 : decode cX8_assigns 8 = .ok (.iload_n 2, 1) := by decide +kernel
theorem dX8_assigns_9 : decode cX8_assigns 9 = .ok (.iconst (-1), 1) := by decide +kernel
theorem dX8_assigns_10 : decode cX8_assigns 10 = .ok (.bipush 7, 2) := by decide +kernel
theorem dX8_assigns_12 : decode cX8_assigns 12 = .ok (.invokestatic 74, 3) := by decide +kernel
theorem dX8_assigns_15 : decode cX8_assigns 15 = .ok (.ifCond .ne 9, 3) := by decide +kernel
theorem dX8_assigns_18 : decode cX8_assigns 18 = .ok (.aload_n 0, 1) := by decide +kernel
theorem dX8_assigns_19 : decode cX8_assigns 19 = .ok (.iconst 1, 1) := by decide +kernel
theorem dX8_assigns_20 : decode cX8_assigns 20 = .ok (.invokevirtual 87, 3) := by decide +kernel
theorem dX8_assigns_23 : decode cX8_assigns 23 = .ok (.ireturn, 1) := by decide +kernel
theorem dX8_assigns_24 : decode cX8_assigns 24 = .ok (.iload_n 2, 1) := by decide +kernel
theorem dX8_assigns_25 : decode cX8_assigns 25 = .ok (.iconst (-1), 1) := by decide +kernel
theorem dX8_assigns_26 : decode cX8_assigns 26 = .ok (.if_icmp .ne 7, 3) := by decide +kernel
theorem dX8_assigns_29 : decode cX8_assigns 29 = .ok (.iconst 0, 1) := by decide +kernel
theorem dX8_assigns_30 : decode cX8_assigns 30 = .ok (.goto 9, 3) := by decide +kernel
theorem dX8_assigns_33 : decode cX8_assigns 33 = .ok (.aload_n 0, 1) := by decide +kernel
theorem dX8_assigns_34 : decode cX8_assigns 34 = .ok (.iload_n 1, 1) := by decide +kernel
theorem dX8_assigns_35 : decode cX8_assigns 35 = .ok (.iload_n 2, 1) := by decide +kernel
theorem dX8_assigns_36 : decode cX8_assigns 36 = .ok (.invokevirtual 187, 3) := by decide +kernel
theorem dX8_assigns_39 : decode cX8_assigns 39 = .ok (.istore_n 3, 1) := by decide +kernel
theorem dX8_assigns_40 : decode cX8_assigns 40 = .ok (.iload_n 3, 1) := by decide +kernel
theorem dX8_assigns_41 : decode cX8_assigns 41 = .ok (.ifCond .eq 14, 3) := by decide +kernel
theorem dX8_assigns_44 : decode cX8_assigns 44 = .ok (.aload_n 0, 1) := by decide +kernel
theorem dX8_assigns_45 : decode cX8_assigns 45 = .ok (.iload_n 3, 1) := by decide +kernel
theorem dX8_assigns_46 : decode cX8_assigns 46 = .ok (.putfield 190, 3) := by decide +kernel
theorem dX8_assigns_49 : decode cX8_assigns 49 = .ok (.aload_n 0, 1) := by decide +kernel
theorem dX8_assigns_50 : decode cX8_assigns 50 = .ok (.iconst 2, 1) := by decide +kernel
theorem dX8_assigns_51 : decode cX8_assigns 51 = .ok (.invokevirtual 87, 3) := by decide +kernel
theorem dX8_assigns_54 : decode cX8_assigns 54 = .ok (.ireturn, 1) := by decide +kernel
theorem dX8_assigns_55 : decode cX8_assigns 55 = .ok (.aload_n 0, 1) := by decide +kernel
theorem dX8_assigns_56 : decode cX8_assigns 56 = .ok (.iload_n 1, 1) := by decide +kernel
theorem dX8_assigns_57 : decode cX8_assigns 57 = .ok (.iconst 4, 1) := by decide +kernel
theorem dX8_assigns_58 : decode cX8_assigns 58 = .ok (.invokevirtual 124, 3) := by decide +kernel
theorem dX8_assigns_61 : decode cX8_assigns 61 = .ok (.istore 4, 2) := by decide +kernel
theorem dX8_assigns_63 : decode cX8_assigns 63 = .ok (.aload_n 0, 1) := by decide +kernel
theorem dX8_assigns_64 : decode cX8_assigns 64 = .ok (.iload_n 1, 1) := by decide +kernel
theorem dX8_assigns_65 : decode cX8_assigns 65 = .ok (.iconst 4, 1) := by decide +kernel
theorem dX8_assigns_66 : decode cX8_assigns 66 = .ok (.iload_n 2, 1) := by decide +kernel
theorem dX8_assigns_67 : decode cX8_assigns 67 = .ok (.invokevirtual 113, 3) := by decide +kernel
theorem dX8_assigns_70 : decode cX8_assigns 70 = .ok (.aload_n 0, 1) := by decide +kernel
theorem dX8_assigns_71 : decode cX8_assigns 71 = .ok (.iload 4, 2) := by decide +kernel
theorem dX8_assigns_73 : decode cX8_assigns 73 = .ok (.invokevirtual 91, 3) := by decide +kernel
theorem dX8_assigns_76 : decode cX8_assigns 76 = .ok (.ireturn, 1) := by decide +kernel
theorem dX8_assign_0 : decode cX8_assign 0 = .ok (.aload_n 0, 1) := by decide +kernel
theorem dX8_assign_1 : decode cX8_assign 1 = .ok (.invokevirtual 84, 3) := by decide +kernel
theorem dX8_assign_4 : decode cX8_assign 4 = .ok (.aload_n 0, 1) := by decide +kernel
theorem dX8_assign_5 : decode cX8_assign 5 = .ok (.aload_n 0, 1) := by decide +kernel
theorem dX8_assign_6 : decode cX8_assign 6 = .ok (.iload_n 1, 1) := by decide +kernel
theorem dX8_assign_7 : decode cX8_assign 7 = .ok (.iload_n 2, 1) := by decide +kernel
theorem dX8_assign_8 : decode cX8_assign 8 = .ok (.invokevirtual 193, 3) := by decide +kernel
theorem dX8_assign_11 : decode cX8_assign 11 = .ok (.invokevirtual 94, 3) := by decide +kernel
theorem dX8_assign_14 : decode cX8_assign 14 = .ok (.ireturn, 1) := by decide +kernel
theorem dX8_reason_0 : decode cX8_reason 0 = .ok (.aload_n 0, 1) := by decide +kernel
theorem dX8_reason_1 : decode cX8_reason 1 = .ok (.iload_n 1, 1) := by decide +kernel
theorem dX8_reason_2 : decode cX8_reason 2 = .ok (.invokevirtual 121, 3) := by decide +kernel
theorem dX8_reason_5 : decode cX8_reason 5 = .ok (.ifCond .eq 23, 3) := by decide +kernel
theorem dX8_reason_8 : decode cX8_reason 8 = .ok (.iload_n 2, 1) := by decide +kernel
theorem dX8_reason_9 : decode cX8_reason 9 = .ok (.invokestatic 109, 3) := by decide +kernel
theorem dX8_reason_12 : decode cX8_reason 12 = .ok (.ifCond .eq 16, 3) := by decide +kernel
theorem dX8_reason_15 : decode cX8_reason 15 = .ok (.aload_n 0, 1) := by decide +kernel
theorem dX8_reason_16 : decode cX8_reason 16 = .ok (.aload_n 0, 1) := by decide +kernel
theorem dX8_reason_17 : decode cX8_reason 17 = .ok (.iload_n 1, 1) := by decide +kernel
theorem dX8_reason_18 : decode cX8_reason 18 = .ok (.iload_n 2, 1) := by decide +kernel
theorem dX8_reason_19 : decode cX8_reason 19 = .ok (.invokevirtual 187, 3) := by decide +kernel
theorem dX8_reason_22 : decode cX8_reason 22 = .ok (.invokevirtual 91, 3) := by decide +kernel
theorem dX8_reason_25 : decode cX8_reason 25 = .ok (.goto 8, 3) := by decide +kernel
theorem dX8_reason_28 : decode cX8_reason 28 = .ok (.aload_n 0, 1) := by decide +kernel
theorem dX8_reason_29 : decode cX8_reason 29 = .ok (.iconst 1, 1) := by decide +kernel
theorem dX8_reason_30 : decode cX8_reason 30 = .ok (.invokevirtual 87, 3) := by decide +kernel
theorem dX8_reason_33 : decode cX8_reason 33 = .ok (.ireturn, 1) := by decide +kernel
theorem dX8_whyNot_0 : decode cX8_whyNot 0 = .ok (.aload_n 0, 1) := by decide +kernel
theorem dX8_whyNot_1 : decode cX8_whyNot 1 = .ok (.getfield 190, 3) := by decide +kernel
theorem dX8_whyNot_4 : decode cX8_whyNot 4 = .ok (.ifCond .ne 11, 3) := by decide +kernel
theorem dX8_whyNot_7 : decode cX8_whyNot 7 = .ok (.aload_n 0, 1) := by decide +kernel
theorem dX8_whyNot_8 : decode cX8_whyNot 8 = .ok (.iconst 1, 1) := by decide +kernel
theorem dX8_whyNot_9 : decode cX8_whyNot 9 = .ok (.invokevirtual 87, 3) := by decide +kernel
theorem dX8_whyNot_12 : decode cX8_whyNot 12 = .ok (.goto 11, 3) := by decide +kernel
theorem dX8_whyNot_15 : decode cX8_whyNot 15 = .ok (.aload_n 0, 1) := by decide +kernel
theorem dX8_whyNot_16 : decode cX8_whyNot 16 = .ok (.aload_n 0, 1) := by decide +kernel
theorem dX8_whyNot_17 : decode cX8_whyNot 17 = .ok (.getfield 190, 3) := by decide +kernel
theorem dX8_whyNot_20 : decode cX8_whyNot 20 = .ok (.invokevirtual 91, 3) := by decide +kernel
theorem dX8_whyNot_23 : decode cX8_whyNot 23 = .ok (.ireturn, 1) := by decide +kernel
theorem dX8_most_0 : decode cX8_most 0 = .ok (.aload_n 0, 1) := by decide +kernel
theorem dX8_most_1 : decode cX8_most 1 = .ok (.getfield 7, 3) := by decide +kernel
theorem dX8_most_4 : decode cX8_most 4 = .ok (.bipush 8, 2) := by decide +kernel
theorem dX8_most_6 : decode cX8_most 6 = .ok (.iload_n 1, 1) := by decide +kernel
theorem dX8_most_7 : decode cX8_most 7 = .ok (.iadd, 1) := by decide +kernel
theorem dX8_most_8 : decode cX8_most 8 = .ok (.iaload, 1) := by decide +kernel
theorem dX8_most_9 : decode cX8_most 9 = .ok (.aload_n 0, 1) := by decide +kernel
theorem dX8_most_10 : decode cX8_most 10 = .ok (.getfield 7, 3) := by decide +kernel
theorem dX8_most_13 : decode cX8_most 13 = .ok (.iconst 4, 1) := by decide +kernel
theorem dX8_most_14 : decode cX8_most 14 = .ok (.iaload, 1) := by decide +kernel
theorem dX8_most_15 : decode cX8_most 15 = .ok (.imul, 1) := by decide +kernel
theorem dX8_most_16 : decode cX8_most 16 = .ok (.aload_n 0, 1) := by decide +kernel
theorem dX8_most_17 : decode cX8_most 17 = .ok (.invokevirtual 105, 3) := by decide +kernel
theorem dX8_most_20 : decode cX8_most 20 = .ok (.imul, 1) := by decide +kernel
theorem dX8_most_21 : decode cX8_most 21 = .ok (.ireturn, 1) := by decide +kernel
theorem dX8_lacks_0 : decode cX8_lacks 0 = .ok (.aload_n 0, 1) := by decide +kernel
theorem dX8_lacks_1 : decode cX8_lacks 1 = .ok (.iload_n 1, 1) := by decide +kernel
theorem dX8_lacks_2 : decode cX8_lacks 2 = .ok (.invokevirtual 196, 3) := by decide +kernel
theorem dX8_lacks_5 : decode cX8_lacks 5 = .ok (.aload_n 0, 1) := by decide +kernel
theorem dX8_lacks_6 : decode cX8_lacks 6 = .ok (.aload_n 0, 1) := by decide +kernel
theorem dX8_lacks_7 : decode cX8_lacks 7 = .ok (.iload_n 1, 1) := by decide +kernel
theorem dX8_lacks_8 : decode cX8_lacks 8 = .ok (.invokevirtual 178, 3) := by decide +kernel
theorem dX8_lacks_11 : decode cX8_lacks 11 = .ok (.invokevirtual 175, 3) := by decide +kernel
theorem dX8_lacks_14 : decode cX8_lacks 14 = .ok (.isub, 1) := by decide +kernel
theorem dX8_lacks_15 : decode cX8_lacks 15 = .ok (.ireturn, 1) := by decide +kernel
theorem dX8_station_0 : decode cX8_station 0 = .ok (.iload_n 1, 1) := by decide +kernel
theorem dX8_station_1 : decode cX8_station 1 = .ok (.invokestatic 109, 3) := by decide +kernel
theorem dX8_station_4 : decode cX8_station 4 = .ok (.ifCond .eq 12, 3) := by decide +kernel
theorem dX8_station_7 : decode cX8_station 7 = .ok (.iload_n 2, 1) := by decide +kernel
theorem dX8_station_8 : decode cX8_station 8 = .ok (.iconst 0, 1) := by decide +kernel
theorem dX8_station_9 : decode cX8_station 9 = .ok (.iconst 5, 1) := by decide +kernel
theorem dX8_station_10 : decode cX8_station 10 = .ok (.invokestatic 74, 3) := by decide +kernel
theorem dX8_station_13 : decode cX8_station 13 = .ok (.ifCond .ne 20, 3) := by decide +kernel
theorem dX8_station_16 : decode cX8_station 16 = .ok (.aload_n 0, 1) := by decide +kernel
theorem dX8_station_17 : decode cX8_station 17 = .ok (.iload_n 1, 1) := by decide +kernel
theorem dX8_station_18 : decode cX8_station 18 = .ok (.invokestatic 109, 3) := by decide +kernel
theorem dX8_station_21 : decode cX8_station 21 = .ok (.ifCond .ne 7, 3) := by decide +kernel
theorem dX8_station_24 : decode cX8_station 24 = .ok (.iconst 1, 1) := by decide +kernel
theorem dX8_station_25 : decode cX8_station 25 = .ok (.goto 4, 3) := by decide +kernel
theorem dX8_station_28 : decode cX8_station 28 = .ok (.iconst 2, 1) := by decide +kernel
theorem dX8_station_29 : decode cX8_station 29 = .ok (.invokevirtual 87, 3) := by decide +kernel
theorem dX8_station_32 : decode cX8_station 32 = .ok (.ireturn, 1) := by decide +kernel
theorem dX8_station_33 : decode cX8_station 33 = .ok (.aload_n 0, 1) := by decide +kernel
theorem dX8_station_34 : decode cX8_station 34 = .ok (.iload_n 1, 1) := by decide +kernel
theorem dX8_station_35 : decode cX8_station 35 = .ok (.invokevirtual 178, 3) := by decide +kernel
theorem dX8_station_38 : decode cX8_station 38 = .ok (.istore_n 3, 1) := by decide +kernel
theorem dX8_station_39 : decode cX8_station 39 = .ok (.iload_n 2, 1) := by decide +kernel
theorem dX8_station_40 : decode cX8_station 40 = .ok (.tableswitch 103 0 4 #[36, 42, 56, 66, 93], 36) := by decide +kernel
theorem dX8_station_76 : decode cX8_station 76 = .ok (.aload_n 0, 1) := by decide +kernel
theorem dX8_station_77 : decode cX8_station 77 = .ok (.iload_n 3, 1) := by decide +kernel
theorem dX8_station_78 : decode cX8_station 78 = .ok (.invokevirtual 91, 3) := by decide +kernel
theorem dX8_station_81 : decode cX8_station 81 = .ok (.ireturn, 1) := by decide +kernel
theorem dX8_station_82 : decode cX8_station 82 = .ok (.aload_n 0, 1) := by decide +kernel
theorem dX8_station_83 : decode cX8_station 83 = .ok (.aload_n 0, 1) := by decide +kernel
theorem dX8_station_84 : decode cX8_station 84 = .ok (.getfield 7, 3) := by decide +kernel
theorem dX8_station_87 : decode cX8_station 87 = .ok (.bipush 8, 2) := by decide +kernel
theorem dX8_station_89 : decode cX8_station 89 = .ok (.iload_n 1, 1) := by decide +kernel
theorem dX8_station_90 : decode cX8_station 90 = .ok (.iadd, 1) := by decide +kernel
theorem dX8_station_91 : decode cX8_station 91 = .ok (.iaload, 1) := by decide +kernel
theorem dX8_station_92 : decode cX8_station 92 = .ok (.invokevirtual 91, 3) := by decide +kernel
theorem dX8_station_95 : decode cX8_station 95 = .ok (.ireturn, 1) := by decide +kernel
theorem dX8_station_96 : decode cX8_station 96 = .ok (.aload_n 0, 1) := by decide +kernel
theorem dX8_station_97 : decode cX8_station 97 = .ok (.aload_n 0, 1) := by decide +kernel
theorem dX8_station_98 : decode cX8_station 98 = .ok (.iload_n 3, 1) := by decide +kernel
theorem dX8_station_99 : decode cX8_station 99 = .ok (.invokevirtual 175, 3) := by decide +kernel
theorem dX8_station_102 : decode cX8_station 102 = .ok (.invokevirtual 91, 3) := by decide +kernel
theorem dX8_station_105 : decode cX8_station 105 = .ok (.ireturn, 1) := by decide +kernel
theorem dX8_station_106 : decode cX8_station 106 = .ok (.aload_n 0, 1) := by decide +kernel
theorem dX8_station_107 : decode cX8_station 107 = .ok (.aload_n 0, 1) := by decide +kernel
theorem dX8_station_108 : decode cX8_station 108 = .ok (.iload_n 3, 1) := by decide +kernel
theorem dX8_station_109 : decode cX8_station 109 = .ok (.aload_n 0, 1) := by decide +kernel
theorem dX8_station_110 : decode cX8_station 110 = .ok (.getfield 7, 3) := by decide +kernel
theorem dX8_station_113 : decode cX8_station 113 = .ok (.bipush 8, 2) := by decide +kernel
theorem dX8_station_115 : decode cX8_station 115 = .ok (.iload_n 1, 1) := by decide +kernel
theorem dX8_station_116 : decode cX8_station 116 = .ok (.iadd, 1) := by decide +kernel
theorem dX8_station_117 : decode cX8_station 117 = .ok (.iaload, 1) := by decide +kernel
theorem dX8_station_118 : decode cX8_station 118 = .ok (.invokevirtual 184, 3) := by decide +kernel
theorem dX8_station_121 : decode cX8_station 121 = .ok (.ifCond .eq 7, 3) := by decide +kernel
theorem dX8_station_124 : decode cX8_station 124 = .ok (.iconst 1, 1) := by decide +kernel
theorem dX8_station_125 : decode cX8_station 125 = .ok (.goto 4, 3) := by decide +kernel
theorem dX8_station_128 : decode cX8_station 128 = .ok (.iconst 0, 1) := by decide +kernel
theorem dX8_station_129 : decode cX8_station 129 = .ok (.invokevirtual 91, 3) := by decide +kernel
theorem dX8_station_132 : decode cX8_station 132 = .ok (.ireturn, 1) := by decide +kernel
theorem dX8_station_133 : decode cX8_station 133 = .ok (.aload_n 0, 1) := by decide +kernel
theorem dX8_station_134 : decode cX8_station 134 = .ok (.aload_n 0, 1) := by decide +kernel
theorem dX8_station_135 : decode cX8_station 135 = .ok (.iload_n 3, 1) := by decide +kernel
theorem dX8_station_136 : decode cX8_station 136 = .ok (.invokevirtual 181, 3) := by decide +kernel
theorem dX8_station_139 : decode cX8_station 139 = .ok (.invokevirtual 91, 3) := by decide +kernel
theorem dX8_station_142 : decode cX8_station 142 = .ok (.ireturn, 1) := by decide +kernel
theorem dX8_station_143 : decode cX8_station 143 = .ok (.aload_n 0, 1) := by decide +kernel
theorem dX8_station_144 : decode cX8_station 144 = .ok (.aload_n 0, 1) := by decide +kernel
theorem dX8_station_145 : decode cX8_station 145 = .ok (.iload_n 1, 1) := by decide +kernel
theorem dX8_station_146 : decode cX8_station 146 = .ok (.invokevirtual 199, 3) := by decide +kernel
theorem dX8_station_149 : decode cX8_station 149 = .ok (.invokevirtual 91, 3) := by decide +kernel
theorem dX8_station_152 : decode cX8_station 152 = .ok (.ireturn, 1) := by decide +kernel
theorem dX8_time_0 : decode cX8_time 0 = .ok (.iload_n 1, 1) := by decide +kernel
theorem dX8_time_1 : decode cX8_time 1 = .ok (.invokestatic 109, 3) := by decide +kernel
theorem dX8_time_4 : decode cX8_time 4 = .ok (.ifCond .eq 19, 3) := by decide +kernel
theorem dX8_time_7 : decode cX8_time 7 = .ok (.iload_n 2, 1) := by decide +kernel
theorem dX8_time_8 : decode cX8_time 8 = .ok (.iconst 0, 1) := by decide +kernel
theorem dX8_time_9 : decode cX8_time 9 = .ok (.aload_n 0, 1) := by decide +kernel
theorem dX8_time_10 : decode cX8_time 10 = .ok (.getfield 7, 3) := by decide +kernel
theorem dX8_time_13 : decode cX8_time 13 = .ok (.iconst 0, 1) := by decide +kernel
theorem dX8_time_14 : decode cX8_time 14 = .ok (.iaload, 1) := by decide +kernel
theorem dX8_time_15 : decode cX8_time 15 = .ok (.iconst 1, 1) := by decide +kernel
theorem dX8_time_16 : decode cX8_time 16 = .ok (.isub, 1) := by decide +kernel
theorem dX8_time_17 : decode cX8_time 17 = .ok (.invokestatic 74, 3) := by decide +kernel
theorem dX8_time_20 : decode cX8_time 20 = .ok (.ifCond .ne 9, 3) := by decide +kernel
theorem dX8_time_23 : decode cX8_time 23 = .ok (.aload_n 0, 1) := by decide +kernel
theorem dX8_time_24 : decode cX8_time 24 = .ok (.iconst 1, 1) := by decide +kernel
theorem dX8_time_25 : decode cX8_time 25 = .ok (.invokevirtual 87, 3) := by decide +kernel
theorem dX8_time_28 : decode cX8_time 28 = .ok (.ireturn, 1) := by decide +kernel
theorem dX8_time_29 : decode cX8_time 29 = .ok (.aload_n 0, 1) := by decide +kernel
theorem dX8_time_30 : decode cX8_time 30 = .ok (.aload_n 0, 1) := by decide +kernel
theorem dX8_time_31 : decode cX8_time 31 = .ok (.iload_n 1, 1) := by decide +kernel
theorem dX8_time_32 : decode cX8_time 32 = .ok (.invokevirtual 178, 3) := by decide +kernel
theorem dX8_time_35 : decode cX8_time 35 = .ok (.invokevirtual 168, 3) := by decide +kernel
theorem dX8_time_38 : decode cX8_time 38 = .ok (.aload_n 0, 1) := by decide +kernel
theorem dX8_time_39 : decode cX8_time 39 = .ok (.iload_n 3, 1) := by decide +kernel
theorem dX8_time_40 : decode cX8_time 40 = .ok (.ifCond .eq 11, 3) := by decide +kernel
theorem dX8_time_43 : decode cX8_time 43 = .ok (.aload_n 0, 1) := by decide +kernel
theorem dX8_time_44 : decode cX8_time 44 = .ok (.iload_n 2, 1) := by decide +kernel
theorem dX8_time_45 : decode cX8_time 45 = .ok (.invokevirtual 165, 3) := by decide +kernel
theorem dX8_time_48 : decode cX8_time 48 = .ok (.goto 8, 3) := by decide +kernel
theorem dX8_time_51 : decode cX8_time 51 = .ok (.aload_n 0, 1) := by decide +kernel
theorem dX8_time_52 : decode cX8_time 52 = .ok (.iload_n 2, 1) := by decide +kernel
theorem dX8_time_53 : decode cX8_time 53 = .ok (.invokevirtual 172, 3) := by decide +kernel
theorem dX8_time_56 : decode cX8_time 56 = .ok (.invokevirtual 91, 3) := by decide +kernel
theorem dX8_time_59 : decode cX8_time 59 = .ok (.ireturn, 1) := by decide +kernel
theorem dX8_sequence_0 : decode cX8_sequence 0 = .ok (.iload_n 1, 1) := by decide +kernel
theorem dX8_sequence_1 : decode cX8_sequence 1 = .ok (.invokestatic 109, 3) := by decide +kernel
theorem dX8_sequence_4 : decode cX8_sequence 4 = .ok (.ifCond .ne 9, 3) := by decide +kernel
theorem dX8_sequence_7 : decode cX8_sequence 7 = .ok (.aload_n 0, 1) := by decide +kernel
theorem dX8_sequence_8 : decode cX8_sequence 8 = .ok (.iconst 1, 1) := by decide +kernel
theorem dX8_sequence_9 : decode cX8_sequence 9 = .ok (.invokevirtual 87, 3) := by decide +kernel
theorem dX8_sequence_12 : decode cX8_sequence 12 = .ok (.ireturn, 1) := by decide +kernel
theorem dX8_sequence_13 : decode cX8_sequence 13 = .ok (.aload_n 0, 1) := by decide +kernel
theorem dX8_sequence_14 : decode cX8_sequence 14 = .ok (.aload_n 0, 1) := by decide +kernel
theorem dX8_sequence_15 : decode cX8_sequence 15 = .ok (.iload_n 1, 1) := by decide +kernel
theorem dX8_sequence_16 : decode cX8_sequence 16 = .ok (.invokevirtual 178, 3) := by decide +kernel
theorem dX8_sequence_19 : decode cX8_sequence 19 = .ok (.invokevirtual 168, 3) := by decide +kernel
theorem dX8_sequence_22 : decode cX8_sequence 22 = .ok (.iload_n 2, 1) := by decide +kernel
theorem dX8_sequence_23 : decode cX8_sequence 23 = .ok (.iconst 0, 1) := by decide +kernel
theorem dX8_sequence_24 : decode cX8_sequence 24 = .ok (.aload_n 0, 1) := by decide +kernel
theorem dX8_sequence_25 : decode cX8_sequence 25 = .ok (.getfield 162, 3) := by decide +kernel
theorem dX8_sequence_28 : decode cX8_sequence 28 = .ok (.iconst 1, 1) := by decide +kernel
theorem dX8_sequence_29 : decode cX8_sequence 29 = .ok (.isub, 1) := by decide +kernel
theorem dX8_sequence_30 : decode cX8_sequence 30 = .ok (.invokestatic 74, 3) := by decide +kernel
theorem dX8_sequence_33 : decode cX8_sequence 33 = .ok (.ifCond .eq 16, 3) := by decide +kernel
theorem dX8_sequence_36 : decode cX8_sequence 36 = .ok (.aload_n 0, 1) := by decide +kernel
theorem dX8_sequence_37 : decode cX8_sequence 37 = .ok (.aload_n 0, 1) := by decide +kernel
theorem dX8_sequence_38 : decode cX8_sequence 38 = .ok (.getfield 22, 3) := by decide +kernel
theorem dX8_sequence_41 : decode cX8_sequence 41 = .ok (.iload_n 2, 1) := by decide +kernel
theorem dX8_sequence_42 : decode cX8_sequence 42 = .ok (.iaload, 1) := by decide +kernel
theorem dX8_sequence_43 : decode cX8_sequence 43 = .ok (.invokevirtual 91, 3) := by decide +kernel
theorem dX8_sequence_46 : decode cX8_sequence 46 = .ok (.goto 8, 3) := by decide +kernel
theorem dX8_sequence_49 : decode cX8_sequence 49 = .ok (.aload_n 0, 1) := by decide +kernel
theorem dX8_sequence_50 : decode cX8_sequence 50 = .ok (.iconst 2, 1) := by decide +kernel
theorem dX8_sequence_51 : decode cX8_sequence 51 = .ok (.invokevirtual 87, 3) := by decide +kernel
theorem dX8_sequence_54 : decode cX8_sequence 54 = .ok (.ireturn, 1) := by decide +kernel
theorem dX8_sumOfAll_0 : decode cX8_sumOfAll 0 = .ok (.iconst 0, 1) := by decide +kernel
theorem dX8_sumOfAll_1 : decode cX8_sumOfAll 1 = .ok (.istore_n 1, 1) := by decide +kernel
theorem dX8_sumOfAll_2 : decode cX8_sumOfAll 2 = .ok (.iconst 0, 1) := by decide +kernel
theorem dX8_sumOfAll_3 : decode cX8_sumOfAll 3 = .ok (.istore_n 2, 1) := by decide +kernel
theorem dX8_sumOfAll_4 : decode cX8_sumOfAll 4 = .ok (.iload_n 2, 1) := by decide +kernel
theorem dX8_sumOfAll_5 : decode cX8_sumOfAll 5 = .ok (.aload_n 0, 1) := by decide +kernel
theorem dX8_sumOfAll_6 : decode cX8_sumOfAll 6 = .ok (.getfield 7, 3) := by decide +kernel
theorem dX8_sumOfAll_9 : decode cX8_sumOfAll 9 = .ok (.bipush 16, 2) := by decide +kernel
theorem dX8_sumOfAll_11 : decode cX8_sumOfAll 11 = .ok (.iaload, 1) := by decide +kernel
theorem dX8_sumOfAll_12 : decode cX8_sumOfAll 12 = .ok (.if_icmp .ge 17, 3) := by decide +kernel
theorem dX8_sumOfAll_15 : decode cX8_sumOfAll 15 = .ok (.iload_n 1, 1) := by decide +kernel
theorem dX8_sumOfAll_16 : decode cX8_sumOfAll 16 = .ok (.aload_n 0, 1) := by decide +kernel
theorem dX8_sumOfAll_17 : decode cX8_sumOfAll 17 = .ok (.iload_n 2, 1) := by decide +kernel
theorem dX8_sumOfAll_18 : decode cX8_sumOfAll 18 = .ok (.invokevirtual 150, 3) := by decide +kernel
theorem dX8_sumOfAll_21 : decode cX8_sumOfAll 21 = .ok (.iadd, 1) := by decide +kernel
theorem dX8_sumOfAll_22 : decode cX8_sumOfAll 22 = .ok (.istore_n 1, 1) := by decide +kernel
theorem dX8_sumOfAll_23 : decode cX8_sumOfAll 23 = .ok (.iinc 2 1, 3) := by decide +kernel
theorem dX8_sumOfAll_26 : decode cX8_sumOfAll 26 = .ok (.goto (-22), 3) := by decide +kernel
theorem dX8_sumOfAll_29 : decode cX8_sumOfAll 29 = .ok (.iload_n 1, 1) := by decide +kernel
theorem dX8_sumOfAll_30 : decode cX8_sumOfAll 30 = .ok (.ireturn, 1) := by decide +kernel
theorem dX8_busiest_0 : decode cX8_busiest 0 = .ok (.iconst 0, 1) := by decide +kernel
theorem dX8_busiest_1 : decode cX8_busiest 1 = .ok (.istore_n 1, 1) := by decide +kernel
theorem dX8_busiest_2 : decode cX8_busiest 2 = .ok (.iconst 1, 1) := by decide +kernel
theorem dX8_busiest_3 : decode cX8_busiest 3 = .ok (.istore_n 2, 1) := by decide +kernel
theorem dX8_busiest_4 : decode cX8_busiest 4 = .ok (.iload_n 2, 1) := by decide +kernel
theorem dX8_busiest_5 : decode cX8_busiest 5 = .ok (.bipush 8, 2) := by decide +kernel
theorem dX8_busiest_7 : decode cX8_busiest 7 = .ok (.if_icmp .ge 67, 3) := by decide +kernel
theorem dX8_busiest_10 : decode cX8_busiest 10 = .ok (.aload_n 0, 1) := by decide +kernel
theorem dX8_busiest_11 : decode cX8_busiest 11 = .ok (.aload_n 0, 1) := by decide +kernel
theorem dX8_busiest_12 : decode cX8_busiest 12 = .ok (.iload_n 2, 1) := by decide +kernel
theorem dX8_busiest_13 : decode cX8_busiest 13 = .ok (.invokevirtual 178, 3) := by decide +kernel
theorem dX8_busiest_16 : decode cX8_busiest 16 = .ok (.invokevirtual 175, 3) := by decide +kernel
theorem dX8_busiest_19 : decode cX8_busiest 19 = .ok (.i2l, 1) := by decide +kernel
theorem dX8_busiest_20 : decode cX8_busiest 20 = .ok (.aload_n 0, 1) := by decide +kernel
theorem dX8_busiest_21 : decode cX8_busiest 21 = .ok (.getfield 7, 3) := by decide +kernel
theorem dX8_busiest_24 : decode cX8_busiest 24 = .ok (.bipush 8, 2) := by decide +kernel
theorem dX8_busiest_26 : decode cX8_busiest 26 = .ok (.iload_n 1, 1) := by decide +kernel
theorem dX8_busiest_27 : decode cX8_busiest 27 = .ok (.iadd, 1) := by decide +kernel
theorem dX8_busiest_28 : decode cX8_busiest 28 = .ok (.iaload, 1) := by decide +kernel
theorem dX8_busiest_29 : decode cX8_busiest 29 = .ok (.i2l, 1) := by decide +kernel
theorem dX8_busiest_30 : decode cX8_busiest 30 = .ok (.lmul, 1) := by decide +kernel
theorem dX8_busiest_31 : decode cX8_busiest 31 = .ok (.lstore_n 3, 1) := by decide +kernel
theorem dX8_busiest_32 : decode cX8_busiest 32 = .ok (.aload_n 0, 1) := by decide +kernel
theorem dX8_busiest_33 : decode cX8_busiest 33 = .ok (.aload_n 0, 1) := by decide +kernel
theorem dX8_busiest_34 : decode cX8_busiest 34 = .ok (.iload_n 1, 1) := by decide +kernel
theorem dX8_busiest_35 : decode cX8_busiest 35 = .ok (.invokevirtual 178, 3) := by decide +kernel
theorem dX8_busiest_38 : decode cX8_busiest 38 = .ok (.invokevirtual 175, 3) := by decide +kernel
theorem dX8_busiest_41 : decode cX8_busiest 41 = .ok (.i2l, 1) := by decide +kernel
theorem dX8_busiest_42 : decode cX8_busiest 42 = .ok (.aload_n 0, 1) := by decide +kernel
theorem dX8_busiest_43 : decode cX8_busiest 43 = .ok (.getfield 7, 3) := by decide +kernel
theorem dX8_busiest_46 : decode cX8_busiest 46 = .ok (.bipush 8, 2) := by decide +kernel
theorem dX8_busiest_48 : decode cX8_busiest 48 = .ok (.iload_n 2, 1) := by decide +kernel
theorem dX8_busiest_49 : decode cX8_busiest 49 = .ok (.iadd, 1) := by decide +kernel
theorem dX8_busiest_50 : decode cX8_busiest 50 = .ok (.iaload, 1) := by decide +kernel
theorem dX8_busiest_51 : decode cX8_busiest 51 = .ok (.i2l, 1) := by decide +kernel
theorem dX8_busiest_52 : decode cX8_busiest 52 = .ok (.lmul, 1) := by decide +kernel
theorem dX8_busiest_53 : decode cX8_busiest 53 = .ok (.lstore 5, 2) := by decide +kernel
theorem dX8_busiest_55 : decode cX8_busiest 55 = .ok (.lload_n 3, 1) := by decide +kernel
theorem dX8_busiest_56 : decode cX8_busiest 56 = .ok (.lload 5, 2) := by decide +kernel
theorem dX8_busiest_58 : decode cX8_busiest 58 = .ok (.lcmp, 1) := by decide +kernel
theorem dX8_busiest_59 : decode cX8_busiest 59 = .ok (.ifCond .le 7, 3) := by decide +kernel
theorem dX8_busiest_62 : decode cX8_busiest 62 = .ok (.iload_n 2, 1) := by decide +kernel
theorem dX8_busiest_63 : decode cX8_busiest 63 = .ok (.goto 4, 3) := by decide +kernel
theorem dX8_busiest_66 : decode cX8_busiest 66 = .ok (.iload_n 1, 1) := by decide +kernel
theorem dX8_busiest_67 : decode cX8_busiest 67 = .ok (.istore_n 1, 1) := by decide +kernel
theorem dX8_busiest_68 : decode cX8_busiest 68 = .ok (.iinc 2 1, 3) := by decide +kernel
theorem dX8_busiest_71 : decode cX8_busiest 71 = .ok (.goto (-67), 3) := by decide +kernel
theorem dX8_busiest_74 : decode cX8_busiest 74 = .ok (.iload_n 1, 1) := by decide +kernel
theorem dX8_busiest_75 : decode cX8_busiest 75 = .ok (.ireturn, 1) := by decide +kernel
theorem dX8_refused_0 : decode cX8_refused 0 = .ok (.iconst 0, 1) := by decide +kernel
theorem dX8_refused_1 : decode cX8_refused 1 = .ok (.istore_n 1, 1) := by decide +kernel
theorem dX8_refused_2 : decode cX8_refused 2 = .ok (.iconst 0, 1) := by decide +kernel
theorem dX8_refused_3 : decode cX8_refused 3 = .ok (.istore_n 2, 1) := by decide +kernel
theorem dX8_refused_4 : decode cX8_refused 4 = .ok (.iload_n 2, 1) := by decide +kernel
theorem dX8_refused_5 : decode cX8_refused 5 = .ok (.aload_n 0, 1) := by decide +kernel
theorem dX8_refused_6 : decode cX8_refused 6 = .ok (.getfield 7, 3) := by decide +kernel
theorem dX8_refused_9 : decode cX8_refused 9 = .ok (.bipush 16, 2) := by decide +kernel
theorem dX8_refused_11 : decode cX8_refused 11 = .ok (.iaload, 1) := by decide +kernel
theorem dX8_refused_12 : decode cX8_refused 12 = .ok (.if_icmp .ge 40, 3) := by decide +kernel
theorem dX8_refused_15 : decode cX8_refused 15 = .ok (.iload_n 1, 1) := by decide +kernel
theorem dX8_refused_16 : decode cX8_refused 16 = .ok (.aload_n 0, 1) := by decide +kernel
theorem dX8_refused_17 : decode cX8_refused 17 = .ok (.iload_n 2, 1) := by decide +kernel
theorem dX8_refused_18 : decode cX8_refused 18 = .ok (.iconst 4, 1) := by decide +kernel
theorem dX8_refused_19 : decode cX8_refused 19 = .ok (.invokevirtual 124, 3) := by decide +kernel
theorem dX8_refused_22 : decode cX8_refused 22 = .ok (.ifCond .lt 21, 3) := by decide +kernel
theorem dX8_refused_25 : decode cX8_refused 25 = .ok (.aload_n 0, 1) := by decide +kernel
theorem dX8_refused_26 : decode cX8_refused 26 = .ok (.iload_n 2, 1) := by decide +kernel
theorem dX8_refused_27 : decode cX8_refused 27 = .ok (.aload_n 0, 1) := by decide +kernel
theorem dX8_refused_28 : decode cX8_refused 28 = .ok (.iload_n 2, 1) := by decide +kernel
theorem dX8_refused_29 : decode cX8_refused 29 = .ok (.iconst 4, 1) := by decide +kernel
theorem dX8_refused_30 : decode cX8_refused 30 = .ok (.invokevirtual 124, 3) := by decide +kernel
theorem dX8_refused_33 : decode cX8_refused 33 = .ok (.invokevirtual 187, 3) := by decide +kernel
theorem dX8_refused_36 : decode cX8_refused 36 = .ok (.ifCond .eq 7, 3) := by decide +kernel
theorem dX8_refused_39 : decode cX8_refused 39 = .ok (.iconst 1, 1) := by decide +kernel
theorem dX8_refused_40 : decode cX8_refused 40 = .ok (.goto 4, 3) := by decide +kernel
theorem dX8_refused_43 : decode cX8_refused 43 = .ok (.iconst 0, 1) := by decide +kernel
theorem dX8_refused_44 : decode cX8_refused 44 = .ok (.iadd, 1) := by decide +kernel
theorem dX8_refused_45 : decode cX8_refused 45 = .ok (.istore_n 1, 1) := by decide +kernel
theorem dX8_refused_46 : decode cX8_refused 46 = .ok (.iinc 2 1, 3) := by decide +kernel
theorem dX8_refused_49 : decode cX8_refused 49 = .ok (.goto (-45), 3) := by decide +kernel
theorem dX8_refused_52 : decode cX8_refused 52 = .ok (.iload_n 1, 1) := by decide +kernel
theorem dX8_refused_53 : decode cX8_refused 53 = .ok (.ireturn, 1) := by decide +kernel
theorem dX8_overAll_0 : decode cX8_overAll 0 = .ok (.iconst 0, 1) := by decide +kernel
theorem dX8_overAll_1 : decode cX8_overAll 1 = .ok (.istore_n 2, 1) := by decide +kernel
theorem dX8_overAll_2 : decode cX8_overAll 2 = .ok (.iconst 0, 1) := by decide +kernel
theorem dX8_overAll_3 : decode cX8_overAll 3 = .ok (.istore_n 3, 1) := by decide +kernel
theorem dX8_overAll_4 : decode cX8_overAll 4 = .ok (.iload_n 3, 1) := by decide +kernel
theorem dX8_overAll_5 : decode cX8_overAll 5 = .ok (.bipush 8, 2) := by decide +kernel
theorem dX8_overAll_7 : decode cX8_overAll 7 = .ok (.if_icmp .ge 140, 3) := by decide +kernel
theorem dX8_overAll_10 : decode cX8_overAll 10 = .ok (.aload_n 0, 1) := by decide +kernel
theorem dX8_overAll_11 : decode cX8_overAll 11 = .ok (.iload_n 3, 1) := by decide +kernel
theorem dX8_overAll_12 : decode cX8_overAll 12 = .ok (.invokevirtual 178, 3) := by decide +kernel
theorem dX8_overAll_15 : decode cX8_overAll 15 = .ok (.istore 4, 2) := by decide +kernel
theorem dX8_overAll_17 : decode cX8_overAll 17 = .ok (.iload_n 1, 1) := by decide +kernel
theorem dX8_overAll_18 : decode cX8_overAll 18 = .ok (.tableswitch 97 0 4 #[34, 50, 74, 97, 85], 34) := by decide +kernel
theorem dX8_overAll_52 : decode cX8_overAll 52 = .ok (.iload_n 2, 1) := by decide +kernel
theorem dX8_overAll_53 : decode cX8_overAll 53 = .ok (.iload 4, 2) := by decide +kernel
theorem dX8_overAll_55 : decode cX8_overAll 55 = .ok (.ifCond .eq 7, 3) := by decide +kernel
theorem dX8_overAll_58 : decode cX8_overAll 58 = .ok (.iconst 1, 1) := by decide +kernel
theorem dX8_overAll_59 : decode cX8_overAll 59 = .ok (.goto 4, 3) := by decide +kernel
theorem dX8_overAll_62 : decode cX8_overAll 62 = .ok (.iconst 0, 1) := by decide +kernel
theorem dX8_overAll_63 : decode cX8_overAll 63 = .ok (.iadd, 1) := by decide +kernel
theorem dX8_overAll_64 : decode cX8_overAll 64 = .ok (.istore_n 2, 1) := by decide +kernel
theorem dX8_overAll_65 : decode cX8_overAll 65 = .ok (.goto 76, 3) := by decide +kernel
theorem dX8_overAll_68 : decode cX8_overAll 68 = .ok (.iload_n 2, 1) := by decide +kernel
theorem dX8_overAll_69 : decode cX8_overAll 69 = .ok (.iload 4, 2) := by decide +kernel
theorem dX8_overAll_71 : decode cX8_overAll 71 = .ok (.ifCond .eq 15, 3) := by decide +kernel
theorem dX8_overAll_74 : decode cX8_overAll 74 = .ok (.aload_n 0, 1) := by decide +kernel
theorem dX8_overAll_75 : decode cX8_overAll 75 = .ok (.getfield 7, 3) := by decide +kernel
theorem dX8_overAll_78 : decode cX8_overAll 78 = .ok (.bipush 8, 2) := by decide +kernel
theorem dX8_overAll_80 : decode cX8_overAll 80 = .ok (.iload_n 3, 1) := by decide +kernel
theorem dX8_overAll_81 : decode cX8_overAll 81 = .ok (.iadd, 1) := by decide +kernel
theorem dX8_overAll_82 : decode cX8_overAll 82 = .ok (.iaload, 1) := by decide +kernel
theorem dX8_overAll_83 : decode cX8_overAll 83 = .ok (.goto 4, 3) := by decide +kernel
theorem dX8_overAll_86 : decode cX8_overAll 86 = .ok (.iconst 0, 1) := by decide +kernel
theorem dX8_overAll_87 : decode cX8_overAll 87 = .ok (.iadd, 1) := by decide +kernel
theorem dX8_overAll_88 : decode cX8_overAll 88 = .ok (.istore_n 2, 1) := by decide +kernel
theorem dX8_overAll_89 : decode cX8_overAll 89 = .ok (.goto 52, 3) := by decide +kernel
theorem dX8_overAll_92 : decode cX8_overAll 92 = .ok (.iload_n 2, 1) := by decide +kernel
theorem dX8_overAll_93 : decode cX8_overAll 93 = .ok (.iload 4, 2) := by decide +kernel
theorem dX8_overAll_95 : decode cX8_overAll 95 = .ok (.invokestatic 133, 3) := by decide +kernel
theorem dX8_overAll_98 : decode cX8_overAll 98 = .ok (.iadd, 1) := by decide +kernel
theorem dX8_overAll_99 : decode cX8_overAll 99 = .ok (.istore_n 2, 1) := by decide +kernel
theorem dX8_overAll_100 : decode cX8_overAll 100 = .ok (.goto 41, 3) := by decide +kernel
theorem dX8_overAll_103 : decode cX8_overAll 103 = .ok (.iload_n 2, 1) := by decide +kernel
theorem dX8_overAll_104 : decode cX8_overAll 104 = .ok (.aload_n 0, 1) := by decide +kernel
theorem dX8_overAll_105 : decode cX8_overAll 105 = .ok (.iload 4, 2) := by decide +kernel
theorem dX8_overAll_107 : decode cX8_overAll 107 = .ok (.invokevirtual 175, 3) := by decide +kernel
theorem dX8_overAll_110 : decode cX8_overAll 110 = .ok (.iadd, 1) := by decide +kernel
theorem dX8_overAll_111 : decode cX8_overAll 111 = .ok (.istore_n 2, 1) := by decide +kernel
theorem dX8_overAll_112 : decode cX8_overAll 112 = .ok (.goto 29, 3) := by decide +kernel
theorem dX8_overAll_115 : decode cX8_overAll 115 = .ok (.iload_n 2, 1) := by decide +kernel
theorem dX8_overAll_116 : decode cX8_overAll 116 = .ok (.aload_n 0, 1) := by decide +kernel
theorem dX8_overAll_117 : decode cX8_overAll 117 = .ok (.iload 4, 2) := by decide +kernel
theorem dX8_overAll_119 : decode cX8_overAll 119 = .ok (.aload_n 0, 1) := by decide +kernel
theorem dX8_overAll_120 : decode cX8_overAll 120 = .ok (.getfield 7, 3) := by decide +kernel
theorem dX8_overAll_123 : decode cX8_overAll 123 = .ok (.bipush 8, 2) := by decide +kernel
theorem dX8_overAll_125 : decode cX8_overAll 125 = .ok (.iload_n 3, 1) := by decide +kernel
theorem dX8_overAll_126 : decode cX8_overAll 126 = .ok (.iadd, 1) := by decide +kernel
theorem dX8_overAll_127 : decode cX8_overAll 127 = .ok (.iaload, 1) := by decide +kernel
theorem dX8_overAll_128 : decode cX8_overAll 128 = .ok (.invokevirtual 184, 3) := by decide +kernel
theorem dX8_overAll_131 : decode cX8_overAll 131 = .ok (.ifCond .eq 7, 3) := by decide +kernel
theorem dX8_overAll_134 : decode cX8_overAll 134 = .ok (.iconst 0, 1) := by decide +kernel
theorem dX8_overAll_135 : decode cX8_overAll 135 = .ok (.goto 4, 3) := by decide +kernel
theorem dX8_overAll_138 : decode cX8_overAll 138 = .ok (.iconst 1, 1) := by decide +kernel
theorem dX8_overAll_139 : decode cX8_overAll 139 = .ok (.iadd, 1) := by decide +kernel
theorem dX8_overAll_140 : decode cX8_overAll 140 = .ok (.istore_n 2, 1) := by decide +kernel
theorem dX8_overAll_141 : decode cX8_overAll 141 = .ok (.iinc 3 1, 3) := by decide +kernel
theorem dX8_overAll_144 : decode cX8_overAll 144 = .ok (.goto (-140), 3) := by decide +kernel
theorem dX8_overAll_147 : decode cX8_overAll 147 = .ok (.iload_n 2, 1) := by decide +kernel
theorem dX8_overAll_148 : decode cX8_overAll 148 = .ok (.ireturn, 1) := by decide +kernel
theorem dX8_line_0 : decode cX8_line 0 = .ok (.iload_n 1, 1) := by decide +kernel
theorem dX8_line_1 : decode cX8_line 1 = .ok (.tableswitch 102 0 7 #[47, 47, 47, 57, 47, 66, 47, 75], 47) := by decide +kernel
theorem dX8_line_48 : decode cX8_line 48 = .ok (.aload_n 0, 1) := by decide +kernel
theorem dX8_line_49 : decode cX8_line 49 = .ok (.aload_n 0, 1) := by decide +kernel
theorem dX8_line_50 : decode cX8_line 50 = .ok (.iload_n 1, 1) := by decide +kernel
theorem dX8_line_51 : decode cX8_line 51 = .ok (.invokevirtual 202, 3) := by decide +kernel
theorem dX8_line_54 : decode cX8_line 54 = .ok (.invokevirtual 91, 3) := by decide +kernel
theorem dX8_line_57 : decode cX8_line 57 = .ok (.ireturn, 1) := by decide +kernel
theorem dX8_line_58 : decode cX8_line 58 = .ok (.aload_n 0, 1) := by decide +kernel
theorem dX8_line_59 : decode cX8_line 59 = .ok (.aload_n 0, 1) := by decide +kernel
theorem dX8_line_60 : decode cX8_line 60 = .ok (.invokevirtual 205, 3) := by decide +kernel
theorem dX8_line_63 : decode cX8_line 63 = .ok (.invokevirtual 91, 3) := by decide +kernel
theorem dX8_line_66 : decode cX8_line 66 = .ok (.ireturn, 1) := by decide +kernel
theorem dX8_line_67 : decode cX8_line 67 = .ok (.aload_n 0, 1) := by decide +kernel
theorem dX8_line_68 : decode cX8_line 68 = .ok (.aload_n 0, 1) := by decide +kernel
theorem dX8_line_69 : decode cX8_line 69 = .ok (.invokevirtual 208, 3) := by decide +kernel
theorem dX8_line_72 : decode cX8_line 72 = .ok (.invokevirtual 91, 3) := by decide +kernel
theorem dX8_line_75 : decode cX8_line 75 = .ok (.ireturn, 1) := by decide +kernel
theorem dX8_line_76 : decode cX8_line 76 = .ok (.aload_n 0, 1) := by decide +kernel
theorem dX8_line_77 : decode cX8_line 77 = .ok (.getfield 7, 3) := by decide +kernel
theorem dX8_line_80 : decode cX8_line 80 = .ok (.iconst 4, 1) := by decide +kernel
theorem dX8_line_81 : decode cX8_line 81 = .ok (.iaload, 1) := by decide +kernel
theorem dX8_line_82 : decode cX8_line 82 = .ok (.aload_n 0, 1) := by decide +kernel
theorem dX8_line_83 : decode cX8_line 83 = .ok (.invokevirtual 105, 3) := by decide +kernel
theorem dX8_line_86 : decode cX8_line 86 = .ok (.imul, 1) := by decide +kernel
theorem dX8_line_87 : decode cX8_line 87 = .ok (.istore_n 2, 1) := by decide +kernel
theorem dX8_line_88 : decode cX8_line 88 = .ok (.aload_n 0, 1) := by decide +kernel
theorem dX8_line_89 : decode cX8_line 89 = .ok (.aload_n 0, 1) := by decide +kernel
theorem dX8_line_90 : decode cX8_line 90 = .ok (.invokevirtual 211, 3) := by decide +kernel
theorem dX8_line_93 : decode cX8_line 93 = .ok (.iload_n 2, 1) := by decide +kernel
theorem dX8_line_94 : decode cX8_line 94 = .ok (.iadd, 1) := by decide +kernel
theorem dX8_line_95 : decode cX8_line 95 = .ok (.iconst 1, 1) := by decide +kernel
theorem dX8_line_96 : decode cX8_line 96 = .ok (.isub, 1) := by decide +kernel
theorem dX8_line_97 : decode cX8_line 97 = .ok (.iload_n 2, 1) := by decide +kernel
theorem dX8_line_98 : decode cX8_line 98 = .ok (.idiv, 1) := by decide +kernel
theorem dX8_line_99 : decode cX8_line 99 = .ok (.invokevirtual 91, 3) := by decide +kernel
theorem dX8_line_102 : decode cX8_line 102 = .ok (.ireturn, 1) := by decide +kernel
theorem dX8_line_103 : decode cX8_line 103 = .ok (.aload_n 0, 1) := by decide +kernel
theorem dX8_line_104 : decode cX8_line 104 = .ok (.iconst 1, 1) := by decide +kernel
theorem dX8_line_105 : decode cX8_line 105 = .ok (.invokevirtual 87, 3) := by decide +kernel
theorem dX8_line_108 : decode cX8_line 108 = .ok (.ireturn, 1) := by decide +kernel
theorem dX8_efficiency_0 : decode cX8_efficiency 0 = .ok (.aload_n 0, 1) := by decide +kernel
theorem dX8_efficiency_1 : decode cX8_efficiency 1 = .ok (.iconst 1, 1) := by decide +kernel
theorem dX8_efficiency_2 : decode cX8_efficiency 2 = .ok (.invokevirtual 202, 3) := by decide +kernel
theorem dX8_efficiency_5 : decode cX8_efficiency 5 = .ok (.istore_n 1, 1) := by decide +kernel
theorem dX8_efficiency_6 : decode cX8_efficiency 6 = .ok (.iload_n 1, 1) := by decide +kernel
theorem dX8_efficiency_7 : decode cX8_efficiency 7 = .ok (.ifCond .ne 10, 3) := by decide +kernel
theorem dX8_efficiency_10 : decode cX8_efficiency 10 = .ok (.aload_n 0, 1) := by decide +kernel
theorem dX8_efficiency_11 : decode cX8_efficiency 11 = .ok (.iconst 1, 1) := by decide +kernel
theorem dX8_efficiency_12 : decode cX8_efficiency 12 = .ok (.putfield 70, 3) := by decide +kernel
theorem dX8_efficiency_15 : decode cX8_efficiency 15 = .ok (.fconst 0, 1) := by decide +kernel
theorem dX8_efficiency_16 : decode cX8_efficiency 16 = .ok (.freturn, 1) := by decide +kernel
theorem dX8_efficiency_17 : decode cX8_efficiency 17 = .ok (.iconst 0, 1) := by decide +kernel
theorem dX8_efficiency_18 : decode cX8_efficiency 18 = .ok (.istore_n 2, 1) := by decide +kernel
theorem dX8_efficiency_19 : decode cX8_efficiency 19 = .ok (.iconst 0, 1) := by decide +kernel
theorem dX8_efficiency_20 : decode cX8_efficiency 20 = .ok (.istore_n 3, 1) := by decide +kernel
theorem dX8_efficiency_21 : decode cX8_efficiency 21 = .ok (.iload_n 3, 1) := by decide +kernel
theorem dX8_efficiency_22 : decode cX8_efficiency 22 = .ok (.aload_n 0, 1) := by decide +kernel
theorem dX8_efficiency_23 : decode cX8_efficiency 23 = .ok (.getfield 7, 3) := by decide +kernel
theorem dX8_efficiency_26 : decode cX8_efficiency 26 = .ok (.bipush 16, 2) := by decide +kernel
theorem dX8_efficiency_28 : decode cX8_efficiency 28 = .ok (.iaload, 1) := by decide +kernel
theorem dX8_efficiency_29 : decode cX8_efficiency 29 = .ok (.if_icmp .ge 30, 3) := by decide +kernel
theorem dX8_efficiency_32 : decode cX8_efficiency 32 = .ok (.iload_n 2, 1) := by decide +kernel
theorem dX8_efficiency_33 : decode cX8_efficiency 33 = .ok (.aload_n 0, 1) := by decide +kernel
theorem dX8_efficiency_34 : decode cX8_efficiency 34 = .ok (.iload_n 3, 1) := by decide +kernel
theorem dX8_efficiency_35 : decode cX8_efficiency 35 = .ok (.iconst 4, 1) := by decide +kernel
theorem dX8_efficiency_36 : decode cX8_efficiency 36 = .ok (.invokevirtual 124, 3) := by decide +kernel
theorem dX8_efficiency_39 : decode cX8_efficiency 39 = .ok (.ifCond .lt 11, 3) := by decide +kernel
theorem dX8_efficiency_42 : decode cX8_efficiency 42 = .ok (.aload_n 0, 1) := by decide +kernel
theorem dX8_efficiency_43 : decode cX8_efficiency 43 = .ok (.iload_n 3, 1) := by decide +kernel
theorem dX8_efficiency_44 : decode cX8_efficiency 44 = .ok (.invokevirtual 150, 3) := by decide +kernel
theorem dX8_efficiency_47 : decode cX8_efficiency 47 = .ok (.goto 4, 3) := by decide +kernel
theorem dX8_efficiency_50 : decode cX8_efficiency 50 = .ok (.iconst 0, 1) := by decide +kernel
theorem dX8_efficiency_51 : decode cX8_efficiency 51 = .ok (.iadd, 1) := by decide +kernel
theorem dX8_efficiency_52 : decode cX8_efficiency 52 = .ok (.istore_n 2, 1) := by decide +kernel
theorem dX8_efficiency_53 : decode cX8_efficiency 53 = .ok (.iinc 3 1, 3) := by decide +kernel
theorem dX8_efficiency_56 : decode cX8_efficiency 56 = .ok (.goto (-35), 3) := by decide +kernel
theorem dX8_efficiency_59 : decode cX8_efficiency 59 = .ok (.aload_n 0, 1) := by decide +kernel
theorem dX8_efficiency_60 : decode cX8_efficiency 60 = .ok (.iconst 0, 1) := by decide +kernel
theorem dX8_efficiency_61 : decode cX8_efficiency 61 = .ok (.putfield 70, 3) := by decide +kernel
theorem dX8_efficiency_64 : decode cX8_efficiency 64 = .ok (.iload_n 2, 1) := by decide +kernel
theorem dX8_efficiency_65 : decode cX8_efficiency 65 = .ok (.i2f, 1) := by decide +kernel
theorem dX8_efficiency_66 : decode cX8_efficiency 66 = .ok (.iload_n 1, 1) := by decide +kernel
theorem dX8_efficiency_67 : decode cX8_efficiency 67 = .ok (.aload_n 0, 1) := by decide +kernel
theorem dX8_efficiency_68 : decode cX8_efficiency 68 = .ok (.getfield 7, 3) := by decide +kernel
theorem dX8_efficiency_71 : decode cX8_efficiency 71 = .ok (.iconst 4, 1) := by decide +kernel
theorem dX8_efficiency_72 : decode cX8_efficiency 72 = .ok (.iaload, 1) := by decide +kernel
theorem dX8_efficiency_73 : decode cX8_efficiency 73 = .ok (.imul, 1) := by decide +kernel
theorem dX8_efficiency_74 : decode cX8_efficiency 74 = .ok (.aload_n 0, 1) := by decide +kernel
theorem dX8_efficiency_75 : decode cX8_efficiency 75 = .ok (.invokevirtual 105, 3) := by decide +kernel
theorem dX8_efficiency_78 : decode cX8_efficiency 78 = .ok (.imul, 1) := by decide +kernel
theorem dX8_efficiency_79 : decode cX8_efficiency 79 = .ok (.i2f, 1) := by decide +kernel
theorem dX8_efficiency_80 : decode cX8_efficiency 80 = .ok (.fdiv, 1) := by decide +kernel
theorem dX8_efficiency_81 : decode cX8_efficiency 81 = .ok (.freturn, 1) := by decide +kernel
theorem dX8_unevenness_0 : decode cX8_unevenness 0 = .ok (.lconst 0, 1) := by decide +kernel
theorem dX8_unevenness_1 : decode cX8_unevenness 1 = .ok (.lstore_n 1, 1) := by decide +kernel
theorem dX8_unevenness_2 : decode cX8_unevenness 2 = .ok (.iconst 0, 1) := by decide +kernel
theorem dX8_unevenness_3 : decode cX8_unevenness 3 = .ok (.istore_n 3, 1) := by decide +kernel
theorem dX8_unevenness_4 : decode cX8_unevenness 4 = .ok (.iload_n 3, 1) := by decide +kernel
theorem dX8_unevenness_5 : decode cX8_unevenness 5 = .ok (.bipush 8, 2) := by decide +kernel
theorem dX8_unevenness_7 : decode cX8_unevenness 7 = .ok (.if_icmp .ge 37, 3) := by decide +kernel
theorem dX8_unevenness_10 : decode cX8_unevenness 10 = .ok (.aload_n 0, 1) := by decide +kernel
theorem dX8_unevenness_11 : decode cX8_unevenness 11 = .ok (.iload_n 3, 1) := by decide +kernel
theorem dX8_unevenness_12 : decode cX8_unevenness 12 = .ok (.invokevirtual 178, 3) := by decide +kernel
theorem dX8_unevenness_15 : decode cX8_unevenness 15 = .ok (.ifCond .eq 12, 3) := by decide +kernel
theorem dX8_unevenness_18 : decode cX8_unevenness 18 = .ok (.aload_n 0, 1) := by decide +kernel
theorem dX8_unevenness_19 : decode cX8_unevenness 19 = .ok (.iload_n 3, 1) := by decide +kernel
theorem dX8_unevenness_20 : decode cX8_unevenness 20 = .ok (.invokevirtual 199, 3) := by decide +kernel
theorem dX8_unevenness_23 : decode cX8_unevenness 23 = .ok (.i2l, 1) := by decide +kernel
theorem dX8_unevenness_24 : decode cX8_unevenness 24 = .ok (.goto 4, 3) := by decide +kernel
theorem dX8_unevenness_27 : decode cX8_unevenness 27 = .ok (.lconst 0, 1) := by decide +kernel
theorem dX8_unevenness_28 : decode cX8_unevenness 28 = .ok (.lstore 4, 2) := by decide +kernel
theorem dX8_unevenness_30 : decode cX8_unevenness 30 = .ok (.lload_n 1, 1) := by decide +kernel
theorem dX8_unevenness_31 : decode cX8_unevenness 31 = .ok (.lload 4, 2) := by decide +kernel
theorem dX8_unevenness_33 : decode cX8_unevenness 33 = .ok (.lload 4, 2) := by decide +kernel
theorem dX8_unevenness_35 : decode cX8_unevenness 35 = .ok (.lmul, 1) := by decide +kernel
theorem dX8_unevenness_36 : decode cX8_unevenness 36 = .ok (.ladd, 1) := by decide +kernel
theorem dX8_unevenness_37 : decode cX8_unevenness 37 = .ok (.lstore_n 1, 1) := by decide +kernel
theorem dX8_unevenness_38 : decode cX8_unevenness 38 = .ok (.iinc 3 1, 3) := by decide +kernel
theorem dX8_unevenness_41 : decode cX8_unevenness 41 = .ok (.goto (-37), 3) := by decide +kernel
theorem dX8_unevenness_44 : decode cX8_unevenness 44 = .ok (.aload_n 0, 1) := by decide +kernel
theorem dX8_unevenness_45 : decode cX8_unevenness 45 = .ok (.iconst 0, 1) := by decide +kernel
theorem dX8_unevenness_46 : decode cX8_unevenness 46 = .ok (.putfield 70, 3) := by decide +kernel
theorem dX8_unevenness_49 : decode cX8_unevenness 49 = .ok (.lload_n 1, 1) := by decide +kernel
theorem dX8_unevenness_50 : decode cX8_unevenness 50 = .ok (.lreturn, 1) := by decide +kernel
theorem dX8_clearLine_0 : decode cX8_clearLine 0 = .ok (.aload_n 0, 1) := by decide +kernel
theorem dX8_clearLine_1 : decode cX8_clearLine 1 = .ok (.invokevirtual 84, 3) := by decide +kernel
theorem dX8_clearLine_4 : decode cX8_clearLine 4 = .ok (.aload_n 0, 1) := by decide +kernel
theorem dX8_clearLine_5 : decode cX8_clearLine 5 = .ok (.iconst 2, 1) := by decide +kernel
theorem dX8_clearLine_6 : decode cX8_clearLine 6 = .ok (.invokevirtual 202, 3) := by decide +kernel
theorem dX8_clearLine_9 : decode cX8_clearLine 9 = .ok (.istore_n 1, 1) := by decide +kernel
theorem dX8_clearLine_10 : decode cX8_clearLine 10 = .ok (.iconst 0, 1) := by decide +kernel
theorem dX8_clearLine_11 : decode cX8_clearLine 11 = .ok (.istore_n 2, 1) := by decide +kernel
theorem dX8_clearLine_12 : decode cX8_clearLine 12 = .ok (.iload_n 2, 1) := by decide +kernel
theorem dX8_clearLine_13 : decode cX8_clearLine 13 = .ok (.aload_n 0, 1) := by decide +kernel
theorem dX8_clearLine_14 : decode cX8_clearLine 14 = .ok (.getfield 7, 3) := by decide +kernel
theorem dX8_clearLine_17 : decode cX8_clearLine 17 = .ok (.bipush 16, 2) := by decide +kernel
theorem dX8_clearLine_19 : decode cX8_clearLine 19 = .ok (.iaload, 1) := by decide +kernel
theorem dX8_clearLine_20 : decode cX8_clearLine 20 = .ok (.if_icmp .ge 16, 3) := by decide +kernel
theorem dX8_clearLine_23 : decode cX8_clearLine 23 = .ok (.aload_n 0, 1) := by decide +kernel
theorem dX8_clearLine_24 : decode cX8_clearLine 24 = .ok (.iload_n 2, 1) := by decide +kernel
theorem dX8_clearLine_25 : decode cX8_clearLine 25 = .ok (.iconst 4, 1) := by decide +kernel
theorem dX8_clearLine_26 : decode cX8_clearLine 26 = .ok (.iconst (-1), 1) := by decide +kernel
theorem dX8_clearLine_27 : decode cX8_clearLine 27 = .ok (.invokevirtual 113, 3) := by decide +kernel
theorem dX8_clearLine_30 : decode cX8_clearLine 30 = .ok (.iinc 2 1, 3) := by decide +kernel
theorem dX8_clearLine_33 : decode cX8_clearLine 33 = .ok (.goto (-21), 3) := by decide +kernel
theorem dX8_clearLine_36 : decode cX8_clearLine 36 = .ok (.aload_n 0, 1) := by decide +kernel
theorem dX8_clearLine_37 : decode cX8_clearLine 37 = .ok (.aload_n 0, 1) := by decide +kernel
theorem dX8_clearLine_38 : decode cX8_clearLine 38 = .ok (.iload_n 1, 1) := by decide +kernel
theorem dX8_clearLine_39 : decode cX8_clearLine 39 = .ok (.invokevirtual 91, 3) := by decide +kernel
theorem dX8_clearLine_42 : decode cX8_clearLine 42 = .ok (.invokevirtual 94, 3) := by decide +kernel
theorem dX8_clearLine_45 : decode cX8_clearLine 45 = .ok (.ireturn, 1) := by decide +kernel
theorem dX8_nextTask_0 : decode cX8_nextTask 0 = .ok (.iconst 0, 1) := by decide +kernel
theorem dX8_nextTask_1 : decode cX8_nextTask 1 = .ok (.istore_n 2, 1) := by decide +kernel
theorem dX8_nextTask_2 : decode cX8_nextTask 2 = .ok (.iconst 0, 1) := by decide +kernel
theorem dX8_nextTask_3 : decode cX8_nextTask 3 = .ok (.istore_n 3, 1) := by decide +kernel
theorem dX8_nextTask_4 : decode cX8_nextTask 4 = .ok (.iload_n 3, 1) := by decide +kernel
theorem dX8_nextTask_5 : decode cX8_nextTask 5 = .ok (.aload_n 0, 1) := by decide +kernel
theorem dX8_nextTask_6 : decode cX8_nextTask 6 = .ok (.getfield 7, 3) := by decide +kernel
theorem dX8_nextTask_9 : decode cX8_nextTask 9 = .ok (.bipush 16, 2) := by decide +kernel
theorem dX8_nextTask_11 : decode cX8_nextTask 11 = .ok (.iaload, 1) := by decide +kernel
theorem dX8_nextTask_12 : decode cX8_nextTask 12 = .ok (.if_icmp .ge 29, 3) := by decide +kernel
theorem dX8_nextTask_15 : decode cX8_nextTask 15 = .ok (.iload_n 2, 1) := by decide +kernel
theorem dX8_nextTask_16 : decode cX8_nextTask 16 = .ok (.aload_n 0, 1) := by decide +kernel
theorem dX8_nextTask_17 : decode cX8_nextTask 17 = .ok (.iload_n 3, 1) := by decide +kernel
theorem dX8_nextTask_18 : decode cX8_nextTask 18 = .ok (.iconst 4, 1) := by decide +kernel
theorem dX8_nextTask_19 : decode cX8_nextTask 19 = .ok (.invokevirtual 124, 3) := by decide +kernel
theorem dX8_nextTask_22 : decode cX8_nextTask 22 = .ok (.iconst (-1), 1) := by decide +kernel
theorem dX8_nextTask_23 : decode cX8_nextTask 23 = .ok (.if_icmp .ne 9, 3) := by decide +kernel
theorem dX8_nextTask_26 : decode cX8_nextTask 26 = .ok (.iconst 1, 1) := by decide +kernel
theorem dX8_nextTask_27 : decode cX8_nextTask 27 = .ok (.iload_n 3, 1) := by decide +kernel
theorem dX8_nextTask_28 : decode cX8_nextTask 28 = .ok (.ishl, 1) := by decide +kernel
theorem dX8_nextTask_29 : decode cX8_nextTask 29 = .ok (.goto 4, 3) := by decide +kernel
theorem dX8_nextTask_32 : decode cX8_nextTask 32 = .ok (.iconst 0, 1) := by decide +kernel
theorem dX8_nextTask_33 : decode cX8_nextTask 33 = .ok (.ior, 1) := by decide +kernel
theorem dX8_nextTask_34 : decode cX8_nextTask 34 = .ok (.istore_n 2, 1) := by decide +kernel
theorem dX8_nextTask_35 : decode cX8_nextTask 35 = .ok (.iinc 3 1, 3) := by decide +kernel
theorem dX8_nextTask_38 : decode cX8_nextTask 38 = .ok (.goto (-34), 3) := by decide +kernel
theorem dX8_nextTask_41 : decode cX8_nextTask 41 = .ok (.iconst (-1), 1) := by decide +kernel
theorem dX8_nextTask_42 : decode cX8_nextTask 42 = .ok (.istore_n 3, 1) := by decide +kernel
theorem dX8_nextTask_43 : decode cX8_nextTask 43 = .ok (.iconst 0, 1) := by decide +kernel
theorem dX8_nextTask_44 : decode cX8_nextTask 44 = .ok (.istore 4, 2) := by decide +kernel
theorem dX8_nextTask_46 : decode cX8_nextTask 46 = .ok (.iload 4, 2) := by decide +kernel
theorem dX8_nextTask_48 : decode cX8_nextTask 48 = .ok (.aload_n 0, 1) := by decide +kernel
theorem dX8_nextTask_49 : decode cX8_nextTask 49 = .ok (.getfield 7, 3) := by decide +kernel
theorem dX8_nextTask_52 : decode cX8_nextTask 52 = .ok (.bipush 16, 2) := by decide +kernel
theorem dX8_nextTask_54 : decode cX8_nextTask 54 = .ok (.iaload, 1) := by decide +kernel
theorem dX8_nextTask_55 : decode cX8_nextTask 55 = .ok (.if_icmp .ge 69, 3) := by decide +kernel
theorem dX8_nextTask_58 : decode cX8_nextTask 58 = .ok (.iload_n 2, 1) := by decide +kernel
theorem dX8_nextTask_59 : decode cX8_nextTask 59 = .ok (.iload 4, 2) := by decide +kernel
theorem dX8_nextTask_61 : decode cX8_nextTask 61 = .ok (.invokestatic 127, 3) := by decide +kernel
theorem dX8_nextTask_64 : decode cX8_nextTask 64 = .ok (.ifCond .eq 18, 3) := by decide +kernel
theorem dX8_nextTask_67 : decode cX8_nextTask 67 = .ok (.aload_n 0, 1) := by decide +kernel
theorem dX8_nextTask_68 : decode cX8_nextTask 68 = .ok (.iload 4, 2) := by decide +kernel
theorem dX8_nextTask_70 : decode cX8_nextTask 70 = .ok (.invokevirtual 130, 3) := by decide +kernel
theorem dX8_nextTask_73 : decode cX8_nextTask 73 = .ok (.iload_n 2, 1) := by decide +kernel
theorem dX8_nextTask_74 : decode cX8_nextTask 74 = .ok (.iand, 1) := by decide +kernel
theorem dX8_nextTask_75 : decode cX8_nextTask 75 = .ok (.ifCond .ne 7, 3) := by decide +kernel
theorem dX8_nextTask_78 : decode cX8_nextTask 78 = .ok (.iconst 1, 1) := by decide +kernel
theorem dX8_nextTask_79 : decode cX8_nextTask 79 = .ok (.goto 4, 3) := by decide +kernel
theorem dX8_nextTask_82 : decode cX8_nextTask 82 = .ok (.iconst 0, 1) := by decide +kernel
theorem dX8_nextTask_83 : decode cX8_nextTask 83 = .ok (.istore 5, 2) := by decide +kernel
theorem dX8_nextTask_85 : decode cX8_nextTask 85 = .ok (.iload 5, 2) := by decide +kernel
theorem dX8_nextTask_87 : decode cX8_nextTask 87 = .ok (.ifCond .eq 29, 3) := by decide +kernel
theorem dX8_nextTask_90 : decode cX8_nextTask 90 = .ok (.iload_n 3, 1) := by decide +kernel
theorem dX8_nextTask_91 : decode cX8_nextTask 91 = .ok (.iconst (-1), 1) := by decide +kernel
theorem dX8_nextTask_92 : decode cX8_nextTask 92 = .ok (.if_icmp .eq 19, 3) := by decide +kernel
theorem dX8_nextTask_95 : decode cX8_nextTask 95 = .ok (.aload_n 0, 1) := by decide +kernel
theorem dX8_nextTask_96 : decode cX8_nextTask 96 = .ok (.iload 4, 2) := by decide +kernel
theorem dX8_nextTask_98 : decode cX8_nextTask 98 = .ok (.iload_n 1, 1) := by decide +kernel
theorem dX8_nextTask_99 : decode cX8_nextTask 99 = .ok (.invokevirtual 159, 3) := by decide +kernel
theorem dX8_nextTask_102 : decode cX8_nextTask 102 = .ok (.aload_n 0, 1) := by decide +kernel
theorem dX8_nextTask_103 : decode cX8_nextTask 103 = .ok (.iload_n 3, 1) := by decide +kernel
theorem dX8_nextTask_104 : decode cX8_nextTask 104 = .ok (.iload_n 1, 1) := by decide +kernel
theorem dX8_nextTask_105 : decode cX8_nextTask 105 = .ok (.invokevirtual 159, 3) := by decide +kernel
theorem dX8_nextTask_108 : decode cX8_nextTask 108 = .ok (.if_icmp .le 8, 3) := by decide +kernel
theorem dX8_nextTask_111 : decode cX8_nextTask 111 = .ok (.iload 4, 2) := by decide +kernel
theorem dX8_nextTask_113 : decode cX8_nextTask 113 = .ok (.goto 4, 3) := by decide +kernel
theorem dX8_nextTask_116 : decode cX8_nextTask 116 = .ok (.iload_n 3, 1) := by decide +kernel
theorem dX8_nextTask_117 : decode cX8_nextTask 117 = .ok (.istore_n 3, 1) := by decide +kernel
theorem dX8_nextTask_118 : decode cX8_nextTask 118 = .ok (.iinc 4 1, 3) := by decide +kernel
theorem dX8_nextTask_121 : decode cX8_nextTask 121 = .ok (.goto (-75), 3) := by decide +kernel
theorem dX8_nextTask_124 : decode cX8_nextTask 124 = .ok (.iload_n 3, 1) := by decide +kernel
theorem dX8_nextTask_125 : decode cX8_nextTask 125 = .ok (.ireturn, 1) := by decide +kernel
theorem dX8_fill_0 : decode cX8_fill 0 = .ok (.iload_n 1, 1) := by decide +kernel
theorem dX8_fill_1 : decode cX8_fill 1 = .ok (.iconst 0, 1) := by decide +kernel
theorem dX8_fill_2 : decode cX8_fill 2 = .ok (.iconst 3, 1) := by decide +kernel
theorem dX8_fill_3 : decode cX8_fill 3 = .ok (.invokestatic 74, 3) := by decide +kernel
theorem dX8_fill_6 : decode cX8_fill 6 = .ok (.ifCond .ne 9, 3) := by decide +kernel
theorem dX8_fill_9 : decode cX8_fill 9 = .ok (.aload_n 0, 1) := by decide +kernel
theorem dX8_fill_10 : decode cX8_fill 10 = .ok (.iconst 1, 1) := by decide +kernel
theorem dX8_fill_11 : decode cX8_fill 11 = .ok (.invokevirtual 87, 3) := by decide +kernel
theorem dX8_fill_14 : decode cX8_fill 14 = .ok (.ireturn, 1) := by decide +kernel
theorem dX8_fill_15 : decode cX8_fill 15 = .ok (.aload_n 0, 1) := by decide +kernel
theorem dX8_fill_16 : decode cX8_fill 16 = .ok (.invokevirtual 84, 3) := by decide +kernel
theorem dX8_fill_19 : decode cX8_fill 19 = .ok (.iconst 0, 1) := by decide +kernel
theorem dX8_fill_20 : decode cX8_fill 20 = .ok (.istore_n 2, 1) := by decide +kernel
theorem dX8_fill_21 : decode cX8_fill 21 = .ok (.iload_n 2, 1) := by decide +kernel
theorem dX8_fill_22 : decode cX8_fill 22 = .ok (.aload_n 0, 1) := by decide +kernel
theorem dX8_fill_23 : decode cX8_fill 23 = .ok (.getfield 7, 3) := by decide +kernel
theorem dX8_fill_26 : decode cX8_fill 26 = .ok (.bipush 16, 2) := by decide +kernel
theorem dX8_fill_28 : decode cX8_fill 28 = .ok (.iaload, 1) := by decide +kernel
theorem dX8_fill_29 : decode cX8_fill 29 = .ok (.if_icmp .ge 16, 3) := by decide +kernel
theorem dX8_fill_32 : decode cX8_fill 32 = .ok (.aload_n 0, 1) := by decide +kernel
theorem dX8_fill_33 : decode cX8_fill 33 = .ok (.iload_n 2, 1) := by decide +kernel
theorem dX8_fill_34 : decode cX8_fill 34 = .ok (.iconst 4, 1) := by decide +kernel
theorem dX8_fill_35 : decode cX8_fill 35 = .ok (.iconst (-1), 1) := by decide +kernel
theorem dX8_fill_36 : decode cX8_fill 36 = .ok (.invokevirtual 113, 3) := by decide +kernel
theorem dX8_fill_39 : decode cX8_fill 39 = .ok (.iinc 2 1, 3) := by decide +kernel
theorem dX8_fill_42 : decode cX8_fill 42 = .ok (.goto (-21), 3) := by decide +kernel
theorem dX8_fill_45 : decode cX8_fill 45 = .ok (.aload_n 0, 1) := by decide +kernel
theorem dX8_fill_46 : decode cX8_fill 46 = .ok (.iload_n 1, 1) := by decide +kernel
theorem dX8_fill_47 : decode cX8_fill 47 = .ok (.invokevirtual 214, 3) := by decide +kernel
theorem dX8_fill_50 : decode cX8_fill 50 = .ok (.istore_n 2, 1) := by decide +kernel
theorem dX8_fill_51 : decode cX8_fill 51 = .ok (.iload_n 2, 1) := by decide +kernel
theorem dX8_fill_52 : decode cX8_fill 52 = .ok (.ifCond .lt 51, 3) := by decide +kernel
theorem dX8_fill_55 : decode cX8_fill 55 = .ok (.aload_n 0, 1) := by decide +kernel
theorem dX8_fill_56 : decode cX8_fill 56 = .ok (.iload_n 2, 1) := by decide +kernel
theorem dX8_fill_57 : decode cX8_fill 57 = .ok (.invokevirtual 156, 3) := by decide +kernel
theorem dX8_fill_60 : decode cX8_fill 60 = .ok (.istore_n 3, 1) := by decide +kernel
theorem dX8_fill_61 : decode cX8_fill 61 = .ok (.iload_n 3, 1) := by decide +kernel
theorem dX8_fill_62 : decode cX8_fill 62 = .ok (.iconst (-1), 1) := by decide +kernel
theorem dX8_fill_63 : decode cX8_fill 63 = .ok (.if_icmp .ne 24, 3) := by decide +kernel
theorem dX8_fill_66 : decode cX8_fill 66 = .ok (.aload_n 0, 1) := by decide +kernel
theorem dX8_fill_67 : decode cX8_fill 67 = .ok (.aload_n 0, 1) := by decide +kernel
theorem dX8_fill_68 : decode cX8_fill 68 = .ok (.iload_n 2, 1) := by decide +kernel
theorem dX8_fill_69 : decode cX8_fill 69 = .ok (.bipush 7, 2) := by decide +kernel
theorem dX8_fill_71 : decode cX8_fill 71 = .ok (.invokevirtual 187, 3) := by decide +kernel
theorem dX8_fill_74 : decode cX8_fill 74 = .ok (.putfield 190, 3) := by decide +kernel
theorem dX8_fill_77 : decode cX8_fill 77 = .ok (.aload_n 0, 1) := by decide +kernel
theorem dX8_fill_78 : decode cX8_fill 78 = .ok (.invokevirtual 217, 3) := by decide +kernel
theorem dX8_fill_81 : decode cX8_fill 81 = .ok (.aload_n 0, 1) := by decide +kernel
theorem dX8_fill_82 : decode cX8_fill 82 = .ok (.iconst 2, 1) := by decide +kernel
theorem dX8_fill_83 : decode cX8_fill 83 = .ok (.invokevirtual 87, 3) := by decide +kernel
theorem dX8_fill_86 : decode cX8_fill 86 = .ok (.ireturn, 1) := by decide +kernel
theorem dX8_fill_87 : decode cX8_fill 87 = .ok (.aload_n 0, 1) := by decide +kernel
theorem dX8_fill_88 : decode cX8_fill 88 = .ok (.iload_n 2, 1) := by decide +kernel
theorem dX8_fill_89 : decode cX8_fill 89 = .ok (.iconst 4, 1) := by decide +kernel
theorem dX8_fill_90 : decode cX8_fill 90 = .ok (.iload_n 3, 1) := by decide +kernel
theorem dX8_fill_91 : decode cX8_fill 91 = .ok (.invokevirtual 113, 3) := by decide +kernel
theorem dX8_fill_94 : decode cX8_fill 94 = .ok (.aload_n 0, 1) := by decide +kernel
theorem dX8_fill_95 : decode cX8_fill 95 = .ok (.iload_n 1, 1) := by decide +kernel
theorem dX8_fill_96 : decode cX8_fill 96 = .ok (.invokevirtual 214, 3) := by decide +kernel
theorem dX8_fill_99 : decode cX8_fill 99 = .ok (.istore_n 2, 1) := by decide +kernel
theorem dX8_fill_100 : decode cX8_fill 100 = .ok (.goto (-49), 3) := by decide +kernel
theorem dX8_fill_103 : decode cX8_fill 103 = .ok (.aload_n 0, 1) := by decide +kernel
theorem dX8_fill_104 : decode cX8_fill 104 = .ok (.aload_n 0, 1) := by decide +kernel
theorem dX8_fill_105 : decode cX8_fill 105 = .ok (.aload_n 0, 1) := by decide +kernel
theorem dX8_fill_106 : decode cX8_fill 106 = .ok (.iconst 0, 1) := by decide +kernel
theorem dX8_fill_107 : decode cX8_fill 107 = .ok (.invokevirtual 202, 3) := by decide +kernel
theorem dX8_fill_110 : decode cX8_fill 110 = .ok (.invokevirtual 91, 3) := by decide +kernel
theorem dX8_fill_113 : decode cX8_fill 113 = .ok (.invokevirtual 94, 3) := by decide +kernel
theorem dX8_fill_116 : decode cX8_fill 116 = .ok (.ireturn, 1) := by decide +kernel
theorem dX8_isSet_0 : decode cX8_isSet 0 = .ok (.aload_n 0, 1) := by decide +kernel
theorem dX8_isSet_1 : decode cX8_isSet 1 = .ok (.iload_n 1, 1) := by decide +kernel
theorem dX8_isSet_2 : decode cX8_isSet 2 = .ok (.invokevirtual 181, 3) := by decide +kernel
theorem dX8_isSet_5 : decode cX8_isSet 5 = .ok (.invokestatic 133, 3) := by decide +kernel
theorem dX8_isSet_8 : decode cX8_isSet 8 = .ok (.aload_n 0, 1) := by decide +kernel
theorem dX8_isSet_9 : decode cX8_isSet 9 = .ok (.getfield 7, 3) := by decide +kernel
theorem dX8_isSet_12 : decode cX8_isSet 12 = .ok (.bipush 6, 2) := by decide +kernel
theorem dX8_isSet_14 : decode cX8_isSet 14 = .ok (.iaload, 1) := by decide +kernel
theorem dX8_isSet_15 : decode cX8_isSet 15 = .ok (.if_icmp .gt 7, 3) := by decide +kernel
theorem dX8_isSet_18 : decode cX8_isSet 18 = .ok (.iconst 1, 1) := by decide +kernel
theorem dX8_isSet_19 : decode cX8_isSet 19 = .ok (.goto 4, 3) := by decide +kernel
theorem dX8_isSet_22 : decode cX8_isSet 22 = .ok (.iconst 0, 1) := by decide +kernel
theorem dX8_isSet_23 : decode cX8_isSet 23 = .ok (.istore_n 2, 1) := by decide +kernel
theorem dX8_isSet_24 : decode cX8_isSet 24 = .ok (.iconst 0, 1) := by decide +kernel
theorem dX8_isSet_25 : decode cX8_isSet 25 = .ok (.istore_n 3, 1) := by decide +kernel
theorem dX8_isSet_26 : decode cX8_isSet 26 = .ok (.iload_n 3, 1) := by decide +kernel
theorem dX8_isSet_27 : decode cX8_isSet 27 = .ok (.aload_n 0, 1) := by decide +kernel
theorem dX8_isSet_28 : decode cX8_isSet 28 = .ok (.getfield 7, 3) := by decide +kernel
theorem dX8_isSet_31 : decode cX8_isSet 31 = .ok (.bipush 16, 2) := by decide +kernel
theorem dX8_isSet_33 : decode cX8_isSet 33 = .ok (.iaload, 1) := by decide +kernel
theorem dX8_isSet_34 : decode cX8_isSet 34 = .ok (.if_icmp .ge 57, 3) := by decide +kernel
theorem dX8_isSet_37 : decode cX8_isSet 37 = .ok (.iload_n 2, 1) := by decide +kernel
theorem dX8_isSet_38 : decode cX8_isSet 38 = .ok (.ifCond .eq 45, 3) := by decide +kernel
theorem dX8_isSet_41 : decode cX8_isSet 41 = .ok (.iload_n 1, 1) := by decide +kernel
theorem dX8_isSet_42 : decode cX8_isSet 42 = .ok (.iload_n 3, 1) := by decide +kernel
theorem dX8_isSet_43 : decode cX8_isSet 43 = .ok (.invokestatic 127, 3) := by decide +kernel
theorem dX8_isSet_46 : decode cX8_isSet 46 = .ok (.ifCond .eq 33, 3) := by decide +kernel
theorem dX8_isSet_49 : decode cX8_isSet 49 = .ok (.aload_n 0, 1) := by decide +kernel
theorem dX8_isSet_50 : decode cX8_isSet 50 = .ok (.getfield 7, 3) := by decide +kernel
theorem dX8_isSet_53 : decode cX8_isSet 53 = .ok (.bipush 89, 2) := by decide +kernel
theorem dX8_isSet_55 : decode cX8_isSet 55 = .ok (.iload_n 3, 1) := by decide +kernel
theorem dX8_isSet_56 : decode cX8_isSet 56 = .ok (.iadd, 1) := by decide +kernel
theorem dX8_isSet_57 : decode cX8_isSet 57 = .ok (.iaload, 1) := by decide +kernel
theorem dX8_isSet_58 : decode cX8_isSet 58 = .ok (.iload_n 1, 1) := by decide +kernel
theorem dX8_isSet_59 : decode cX8_isSet 59 = .ok (.iand, 1) := by decide +kernel
theorem dX8_isSet_60 : decode cX8_isSet 60 = .ok (.ifCond .ne 23, 3) := by decide +kernel
theorem dX8_isSet_63 : decode cX8_isSet 63 = .ok (.aload_n 0, 1) := by decide +kernel
theorem dX8_isSet_64 : decode cX8_isSet 64 = .ok (.getfield 7, 3) := by decide +kernel
theorem dX8_isSet_67 : decode cX8_isSet 67 = .ok (.bipush 101, 2) := by decide +kernel
theorem dX8_isSet_69 : decode cX8_isSet 69 = .ok (.iload_n 3, 1) := by decide +kernel
theorem dX8_isSet_70 : decode cX8_isSet 70 = .ok (.iadd, 1) := by decide +kernel
theorem dX8_isSet_71 : decode cX8_isSet 71 = .ok (.iaload, 1) := by decide +kernel
theorem dX8_isSet_72 : decode cX8_isSet 72 = .ok (.iload_n 1, 1) := by decide +kernel
theorem dX8_isSet_73 : decode cX8_isSet 73 = .ok (.iconst (-1), 1) := by decide +kernel
theorem dX8_isSet_74 : decode cX8_isSet 74 = .ok (.ixor, 1) := by decide +kernel
theorem dX8_isSet_75 : decode cX8_isSet 75 = .ok (.iand, 1) := by decide +kernel
theorem dX8_isSet_76 : decode cX8_isSet 76 = .ok (.ifCond .ne 7, 3) := by decide +kernel
theorem dX8_isSet_79 : decode cX8_isSet 79 = .ok (.iconst 1, 1) := by decide +kernel
theorem dX8_isSet_80 : decode cX8_isSet 80 = .ok (.goto 4, 3) := by decide +kernel
theorem dX8_isSet_83 : decode cX8_isSet 83 = .ok (.iconst 0, 1) := by decide +kernel
theorem dX8_isSet_84 : decode cX8_isSet 84 = .ok (.istore_n 2, 1) := by decide +kernel
theorem dX8_isSet_85 : decode cX8_isSet 85 = .ok (.iinc 3 1, 3) := by decide +kernel
theorem dX8_isSet_88 : decode cX8_isSet 88 = .ok (.goto (-62), 3) := by decide +kernel
theorem dX8_isSet_91 : decode cX8_isSet 91 = .ok (.iload_n 2, 1) := by decide +kernel
theorem dX8_isSet_92 : decode cX8_isSet 92 = .ok (.ireturn, 1) := by decide +kernel
theorem dX8_tellSets_0 : decode cX8_tellSets 0 = .ok (.iconst 0, 1) := by decide +kernel
theorem dX8_tellSets_1 : decode cX8_tellSets 1 = .ok (.istore_n 1, 1) := by decide +kernel
theorem dX8_tellSets_2 : decode cX8_tellSets 2 = .ok (.iload_n 1, 1) := by decide +kernel
theorem dX8_tellSets_3 : decode cX8_tellSets 3 = .ok (.iconst 1, 1) := by decide +kernel
theorem dX8_tellSets_4 : decode cX8_tellSets 4 = .ok (.aload_n 0, 1) := by decide +kernel
theorem dX8_tellSets_5 : decode cX8_tellSets 5 = .ok (.getfield 7, 3) := by decide +kernel
theorem dX8_tellSets_8 : decode cX8_tellSets 8 = .ok (.bipush 16, 2) := by decide +kernel
theorem dX8_tellSets_10 : decode cX8_tellSets 10 = .ok (.iaload, 1) := by decide +kernel
theorem dX8_tellSets_11 : decode cX8_tellSets 11 = .ok (.ishl, 1) := by decide +kernel
theorem dX8_tellSets_12 : decode cX8_tellSets 12 = .ok (.if_icmp .ge 118, 3) := by decide +kernel
theorem dX8_tellSets_15 : decode cX8_tellSets 15 = .ok (.iconst 1, 1) := by decide +kernel
theorem dX8_tellSets_16 : decode cX8_tellSets 16 = .ok (.istore_n 2, 1) := by decide +kernel
theorem dX8_tellSets_17 : decode cX8_tellSets 17 = .ok (.iconst 0, 1) := by decide +kernel
theorem dX8_tellSets_18 : decode cX8_tellSets 18 = .ok (.istore_n 3, 1) := by decide +kernel
theorem dX8_tellSets_19 : decode cX8_tellSets 19 = .ok (.iload_n 3, 1) := by decide +kernel
theorem dX8_tellSets_20 : decode cX8_tellSets 20 = .ok (.aload_n 0, 1) := by decide +kernel
theorem dX8_tellSets_21 : decode cX8_tellSets 21 = .ok (.getfield 7, 3) := by decide +kernel
theorem dX8_tellSets_24 : decode cX8_tellSets 24 = .ok (.bipush 16, 2) := by decide +kernel
theorem dX8_tellSets_26 : decode cX8_tellSets 26 = .ok (.iaload, 1) := by decide +kernel
theorem dX8_tellSets_27 : decode cX8_tellSets 27 = .ok (.if_icmp .ge 39, 3) := by decide +kernel
theorem dX8_tellSets_30 : decode cX8_tellSets 30 = .ok (.iload_n 2, 1) := by decide +kernel
theorem dX8_tellSets_31 : decode cX8_tellSets 31 = .ok (.ifCond .eq 27, 3) := by decide +kernel
theorem dX8_tellSets_34 : decode cX8_tellSets 34 = .ok (.iload_n 1, 1) := by decide +kernel
theorem dX8_tellSets_35 : decode cX8_tellSets 35 = .ok (.iload_n 3, 1) := by decide +kernel
theorem dX8_tellSets_36 : decode cX8_tellSets 36 = .ok (.invokestatic 127, 3) := by decide +kernel
theorem dX8_tellSets_39 : decode cX8_tellSets 39 = .ok (.ifCond .eq 15, 3) := by decide +kernel
theorem dX8_tellSets_42 : decode cX8_tellSets 42 = .ok (.aload_n 0, 1) := by decide +kernel
theorem dX8_tellSets_43 : decode cX8_tellSets 43 = .ok (.iload_n 3, 1) := by decide +kernel
theorem dX8_tellSets_44 : decode cX8_tellSets 44 = .ok (.invokevirtual 130, 3) := by decide +kernel
theorem dX8_tellSets_47 : decode cX8_tellSets 47 = .ok (.iload_n 1, 1) := by decide +kernel
theorem dX8_tellSets_48 : decode cX8_tellSets 48 = .ok (.iconst (-1), 1) := by decide +kernel
theorem dX8_tellSets_49 : decode cX8_tellSets 49 = .ok (.ixor, 1) := by decide +kernel
theorem dX8_tellSets_50 : decode cX8_tellSets 50 = .ok (.iand, 1) := by decide +kernel
theorem dX8_tellSets_51 : decode cX8_tellSets 51 = .ok (.ifCond .ne 7, 3) := by decide +kernel
theorem dX8_tellSets_54 : decode cX8_tellSets 54 = .ok (.iconst 1, 1) := by decide +kernel
theorem dX8_tellSets_55 : decode cX8_tellSets 55 = .ok (.goto 4, 3) := by decide +kernel
theorem dX8_tellSets_58 : decode cX8_tellSets 58 = .ok (.iconst 0, 1) := by decide +kernel
theorem dX8_tellSets_59 : decode cX8_tellSets 59 = .ok (.istore_n 2, 1) := by decide +kernel
theorem dX8_tellSets_60 : decode cX8_tellSets 60 = .ok (.iinc 3 1, 3) := by decide +kernel
theorem dX8_tellSets_63 : decode cX8_tellSets 63 = .ok (.goto (-44), 3) := by decide +kernel
theorem dX8_tellSets_66 : decode cX8_tellSets 66 = .ok (.aload_n 0, 1) := by decide +kernel
theorem dX8_tellSets_67 : decode cX8_tellSets 67 = .ok (.getfield 28, 3) := by decide +kernel
theorem dX8_tellSets_70 : decode cX8_tellSets 70 = .ok (.iload_n 1, 1) := by decide +kernel
theorem dX8_tellSets_71 : decode cX8_tellSets 71 = .ok (.iload_n 2, 1) := by decide +kernel
theorem dX8_tellSets_72 : decode cX8_tellSets 72 = .ok (.bastore, 1) := by decide +kernel
theorem dX8_tellSets_73 : decode cX8_tellSets 73 = .ok (.aload_n 0, 1) := by decide +kernel
theorem dX8_tellSets_74 : decode cX8_tellSets 74 = .ok (.iload_n 1, 1) := by decide +kernel
theorem dX8_tellSets_75 : decode cX8_tellSets 75 = .ok (.invokevirtual 220, 3) := by decide +kernel
theorem dX8_tellSets_78 : decode cX8_tellSets 78 = .ok (.istore_n 3, 1) := by decide +kernel
theorem dX8_tellSets_79 : decode cX8_tellSets 79 = .ok (.iconst 1, 1) := by decide +kernel
theorem dX8_tellSets_80 : decode cX8_tellSets 80 = .ok (.istore 4, 2) := by decide +kernel
theorem dX8_tellSets_82 : decode cX8_tellSets 82 = .ok (.iload 4, 2) := by decide +kernel
theorem dX8_tellSets_84 : decode cX8_tellSets 84 = .ok (.iconst 3, 1) := by decide +kernel
theorem dX8_tellSets_85 : decode cX8_tellSets 85 = .ok (.if_icmp .gt 39, 3) := by decide +kernel
theorem dX8_tellSets_88 : decode cX8_tellSets 88 = .ok (.aload_n 0, 1) := by decide +kernel
theorem dX8_tellSets_89 : decode cX8_tellSets 89 = .ok (.getfield 32, 3) := by decide +kernel
theorem dX8_tellSets_92 : decode cX8_tellSets 92 = .ok (.iconst 4, 1) := by decide +kernel
theorem dX8_tellSets_93 : decode cX8_tellSets 93 = .ok (.iload_n 1, 1) := by decide +kernel
theorem dX8_tellSets_94 : decode cX8_tellSets 94 = .ok (.imul, 1) := by decide +kernel
theorem dX8_tellSets_95 : decode cX8_tellSets 95 = .ok (.iload 4, 2) := by decide +kernel
theorem dX8_tellSets_97 : decode cX8_tellSets 97 = .ok (.iadd, 1) := by decide +kernel
theorem dX8_tellSets_98 : decode cX8_tellSets 98 = .ok (.iload_n 3, 1) := by decide +kernel
theorem dX8_tellSets_99 : decode cX8_tellSets 99 = .ok (.ifCond .eq 17, 3) := by decide +kernel
theorem dX8_tellSets_102 : decode cX8_tellSets 102 = .ok (.aload_n 0, 1) := by decide +kernel
theorem dX8_tellSets_103 : decode cX8_tellSets 103 = .ok (.iload_n 1, 1) := by decide +kernel
theorem dX8_tellSets_104 : decode cX8_tellSets 104 = .ok (.iload 4, 2) := by decide +kernel
theorem dX8_tellSets_106 : decode cX8_tellSets 106 = .ok (.invokevirtual 184, 3) := by decide +kernel
theorem dX8_tellSets_109 : decode cX8_tellSets 109 = .ok (.ifCond .eq 7, 3) := by decide +kernel
theorem dX8_tellSets_112 : decode cX8_tellSets 112 = .ok (.iconst 1, 1) := by decide +kernel
theorem dX8_tellSets_113 : decode cX8_tellSets 113 = .ok (.goto 4, 3) := by decide +kernel
theorem dX8_tellSets_116 : decode cX8_tellSets 116 = .ok (.iconst 0, 1) := by decide +kernel
theorem dX8_tellSets_117 : decode cX8_tellSets 117 = .ok (.bastore, 1) := by decide +kernel
theorem dX8_tellSets_118 : decode cX8_tellSets 118 = .ok (.iinc 4 1, 3) := by decide +kernel
theorem dX8_tellSets_121 : decode cX8_tellSets 121 = .ok (.goto (-39), 3) := by decide +kernel
theorem dX8_tellSets_124 : decode cX8_tellSets 124 = .ok (.iinc 1 1, 3) := by decide +kernel
theorem dX8_tellSets_127 : decode cX8_tellSets 127 = .ok (.goto (-125), 3) := by decide +kernel
theorem dX8_tellSets_130 : decode cX8_tellSets 130 = .ok (.return_, 1) := by decide +kernel
theorem dX8_isTold_0 : decode cX8_isTold 0 = .ok (.iconst 1, 1) := by decide +kernel
theorem dX8_isTold_1 : decode cX8_isTold 1 = .ok (.istore_n 3, 1) := by decide +kernel
theorem dX8_isTold_2 : decode cX8_isTold 2 = .ok (.iconst 0, 1) := by decide +kernel
theorem dX8_isTold_3 : decode cX8_isTold 3 = .ok (.istore 4, 2) := by decide +kernel
theorem dX8_isTold_5 : decode cX8_isTold 5 = .ok (.iload 4, 2) := by decide +kernel
theorem dX8_isTold_7 : decode cX8_isTold 7 = .ok (.aload_n 0, 1) := by decide +kernel
theorem dX8_isTold_8 : decode cX8_isTold 8 = .ok (.getfield 7, 3) := by decide +kernel
theorem dX8_isTold_11 : decode cX8_isTold 11 = .ok (.bipush 16, 2) := by decide +kernel
theorem dX8_isTold_13 : decode cX8_isTold 13 = .ok (.iaload, 1) := by decide +kernel
theorem dX8_isTold_14 : decode cX8_isTold 14 = .ok (.if_icmp .ge 55, 3) := by decide +kernel
theorem dX8_isTold_17 : decode cX8_isTold 17 = .ok (.iload_n 3, 1) := by decide +kernel
theorem dX8_isTold_18 : decode cX8_isTold 18 = .ok (.ifCond .eq 43, 3) := by decide +kernel
theorem dX8_isTold_21 : decode cX8_isTold 21 = .ok (.aload_n 0, 1) := by decide +kernel
theorem dX8_isTold_22 : decode cX8_isTold 22 = .ok (.getfield 42, 3) := by decide +kernel
theorem dX8_isTold_25 : decode cX8_isTold 25 = .ok (.iload 4, 2) := by decide +kernel
theorem dX8_isTold_27 : decode cX8_isTold 27 = .ok (.iaload, 1) := by decide +kernel
theorem dX8_isTold_28 : decode cX8_isTold 28 = .ok (.iconst (-1), 1) := by decide +kernel
theorem dX8_isTold_29 : decode cX8_isTold 29 = .ok (.if_icmp .eq 28, 3) := by decide +kernel
theorem dX8_isTold_32 : decode cX8_isTold 32 = .ok (.aload_n 0, 1) := by decide +kernel
theorem dX8_isTold_33 : decode cX8_isTold 33 = .ok (.getfield 42, 3) := by decide +kernel
theorem dX8_isTold_36 : decode cX8_isTold 36 = .ok (.iload 4, 2) := by decide +kernel
theorem dX8_isTold_38 : decode cX8_isTold 38 = .ok (.iaload, 1) := by decide +kernel
theorem dX8_isTold_39 : decode cX8_isTold 39 = .ok (.iload_n 2, 1) := by decide +kernel
theorem dX8_isTold_40 : decode cX8_isTold 40 = .ok (.if_icmp .ne 7, 3) := by decide +kernel
theorem dX8_isTold_43 : decode cX8_isTold 43 = .ok (.iconst 1, 1) := by decide +kernel
theorem dX8_isTold_44 : decode cX8_isTold 44 = .ok (.goto 4, 3) := by decide +kernel
theorem dX8_isTold_47 : decode cX8_isTold 47 = .ok (.iconst 0, 1) := by decide +kernel
theorem dX8_isTold_48 : decode cX8_isTold 48 = .ok (.iload_n 1, 1) := by decide +kernel
theorem dX8_isTold_49 : decode cX8_isTold 49 = .ok (.iload 4, 2) := by decide +kernel
theorem dX8_isTold_51 : decode cX8_isTold 51 = .ok (.invokestatic 127, 3) := by decide +kernel
theorem dX8_isTold_54 : decode cX8_isTold 54 = .ok (.if_icmp .ne 7, 3) := by decide +kernel
theorem dX8_isTold_57 : decode cX8_isTold 57 = .ok (.iconst 1, 1) := by decide +kernel
theorem dX8_isTold_58 : decode cX8_isTold 58 = .ok (.goto 4, 3) := by decide +kernel
theorem dX8_isTold_61 : decode cX8_isTold 61 = .ok (.iconst 0, 1) := by decide +kernel
theorem dX8_isTold_62 : decode cX8_isTold 62 = .ok (.istore_n 3, 1) := by decide +kernel
theorem dX8_isTold_63 : decode cX8_isTold 63 = .ok (.iinc 4 1, 3) := by decide +kernel
theorem dX8_isTold_66 : decode cX8_isTold 66 = .ok (.goto (-61), 3) := by decide +kernel
theorem dX8_isTold_69 : decode cX8_isTold 69 = .ok (.iload_n 3, 1) := by decide +kernel
theorem dX8_isTold_70 : decode cX8_isTold 70 = .ok (.ireturn, 1) := by decide +kernel
theorem dX8_linesOf_0 : decode cX8_linesOf 0 = .ok (.iconst 1, 1) := by decide +kernel
theorem dX8_linesOf_1 : decode cX8_linesOf 1 = .ok (.aload_n 0, 1) := by decide +kernel
theorem dX8_linesOf_2 : decode cX8_linesOf 2 = .ok (.getfield 7, 3) := by decide +kernel
theorem dX8_linesOf_5 : decode cX8_linesOf 5 = .ok (.bipush 16, 2) := by decide +kernel
theorem dX8_linesOf_7 : decode cX8_linesOf 7 = .ok (.iaload, 1) := by decide +kernel
theorem dX8_linesOf_8 : decode cX8_linesOf 8 = .ok (.ishl, 1) := by decide +kernel
theorem dX8_linesOf_9 : decode cX8_linesOf 9 = .ok (.iconst 1, 1) := by decide +kernel
theorem dX8_linesOf_10 : decode cX8_linesOf 10 = .ok (.isub, 1) := by decide +kernel
theorem dX8_linesOf_11 : decode cX8_linesOf 11 = .ok (.istore_n 2, 1) := by decide +kernel
theorem dX8_linesOf_12 : decode cX8_linesOf 12 = .ok (.iconst 0, 1) := by decide +kernel
theorem dX8_linesOf_13 : decode cX8_linesOf 13 = .ok (.istore_n 3, 1) := by decide +kernel
theorem dX8_linesOf_14 : decode cX8_linesOf 14 = .ok (.iload_n 3, 1) := by decide +kernel
theorem dX8_linesOf_15 : decode cX8_linesOf 15 = .ok (.iload_n 2, 1) := by decide +kernel
theorem dX8_linesOf_16 : decode cX8_linesOf 16 = .ok (.if_icmp .gt 24, 3) := by decide +kernel
theorem dX8_linesOf_19 : decode cX8_linesOf 19 = .ok (.aload_n 0, 1) := by decide +kernel
theorem dX8_linesOf_20 : decode cX8_linesOf 20 = .ok (.getfield 35, 3) := by decide +kernel
theorem dX8_linesOf_23 : decode cX8_linesOf 23 = .ok (.iload_n 3, 1) := by decide +kernel
theorem dX8_linesOf_24 : decode cX8_linesOf 24 = .ok (.iload_n 3, 1) := by decide +kernel
theorem dX8_linesOf_25 : decode cX8_linesOf 25 = .ok (.ifCond .ne 7, 3) := by decide +kernel
theorem dX8_linesOf_28 : decode cX8_linesOf 28 = .ok (.lconst 1, 1) := by decide +kernel
theorem dX8_linesOf_29 : decode cX8_linesOf 29 = .ok (.goto 4, 3) := by decide +kernel
theorem dX8_linesOf_32 : decode cX8_linesOf 32 = .ok (.lconst 0, 1) := by decide +kernel
theorem dX8_linesOf_33 : decode cX8_linesOf 33 = .ok (.lastore, 1) := by decide +kernel
theorem dX8_linesOf_34 : decode cX8_linesOf 34 = .ok (.iinc 3 1, 3) := by decide +kernel
theorem dX8_linesOf_37 : decode cX8_linesOf 37 = .ok (.goto (-23), 3) := by decide +kernel
theorem dX8_linesOf_40 : decode cX8_linesOf 40 = .ok (.iconst 0, 1) := by decide +kernel
theorem dX8_linesOf_41 : decode cX8_linesOf 41 = .ok (.istore_n 3, 1) := by decide +kernel
theorem dX8_linesOf_42 : decode cX8_linesOf 42 = .ok (.iload_n 3, 1) := by decide +kernel
theorem dX8_linesOf_43 : decode cX8_linesOf 43 = .ok (.iload_n 1, 1) := by decide +kernel
theorem dX8_linesOf_44 : decode cX8_linesOf 44 = .ok (.if_icmp .ge 188, 3) := by decide +kernel
theorem dX8_linesOf_47 : decode cX8_linesOf 47 = .ok (.iconst 0, 1) := by decide +kernel
theorem dX8_linesOf_48 : decode cX8_linesOf 48 = .ok (.istore 4, 2) := by decide +kernel
theorem dX8_linesOf_50 : decode cX8_linesOf 50 = .ok (.iload 4, 2) := by decide +kernel
theorem dX8_linesOf_52 : decode cX8_linesOf 52 = .ok (.iload_n 2, 1) := by decide +kernel
theorem dX8_linesOf_53 : decode cX8_linesOf 53 = .ok (.if_icmp .gt 17, 3) := by decide +kernel
theorem dX8_linesOf_56 : decode cX8_linesOf 56 = .ok (.aload_n 0, 1) := by decide +kernel
theorem dX8_linesOf_57 : decode cX8_linesOf 57 = .ok (.getfield 39, 3) := by decide +kernel
theorem dX8_linesOf_60 : decode cX8_linesOf 60 = .ok (.iload 4, 2) := by decide +kernel
theorem dX8_linesOf_62 : decode cX8_linesOf 62 = .ok (.lconst 0, 1) := by decide +kernel
theorem dX8_linesOf_63 : decode cX8_linesOf 63 = .ok (.lastore, 1) := by decide +kernel
theorem dX8_linesOf_64 : decode cX8_linesOf 64 = .ok (.iinc 4 1, 3) := by decide +kernel
theorem dX8_linesOf_67 : decode cX8_linesOf 67 = .ok (.goto (-17), 3) := by decide +kernel
theorem dX8_linesOf_70 : decode cX8_linesOf 70 = .ok (.iconst 0, 1) := by decide +kernel
theorem dX8_linesOf_71 : decode cX8_linesOf 71 = .ok (.istore 4, 2) := by decide +kernel
theorem dX8_linesOf_73 : decode cX8_linesOf 73 = .ok (.iload 4, 2) := by decide +kernel
theorem dX8_linesOf_75 : decode cX8_linesOf 75 = .ok (.iload_n 2, 1) := by decide +kernel
theorem dX8_linesOf_76 : decode cX8_linesOf 76 = .ok (.if_icmp .gt 121, 3) := by decide +kernel
theorem dX8_linesOf_79 : decode cX8_linesOf 79 = .ok (.aload_n 0, 1) := by decide +kernel
theorem dX8_linesOf_80 : decode cX8_linesOf 80 = .ok (.getfield 32, 3) := by decide +kernel
theorem dX8_linesOf_83 : decode cX8_linesOf 83 = .ok (.iconst 4, 1) := by decide +kernel
theorem dX8_linesOf_84 : decode cX8_linesOf 84 = .ok (.iload 4, 2) := by decide +kernel
theorem dX8_linesOf_86 : decode cX8_linesOf 86 = .ok (.imul, 1) := by decide +kernel
theorem dX8_linesOf_87 : decode cX8_linesOf 87 = .ok (.aload_n 0, 1) := by decide +kernel
theorem dX8_linesOf_88 : decode cX8_linesOf 88 = .ok (.getfield 7, 3) := by decide +kernel
theorem dX8_linesOf_91 : decode cX8_linesOf 91 = .ok (.bipush 8, 2) := by decide +kernel
theorem dX8_linesOf_93 : decode cX8_linesOf 93 = .ok (.iload_n 3, 1) := by decide +kernel
theorem dX8_linesOf_94 : decode cX8_linesOf 94 = .ok (.iadd, 1) := by decide +kernel
theorem dX8_linesOf_95 : decode cX8_linesOf 95 = .ok (.iaload, 1) := by decide +kernel
theorem dX8_linesOf_96 : decode cX8_linesOf 96 = .ok (.iadd, 1) := by decide +kernel
theorem dX8_linesOf_97 : decode cX8_linesOf 97 = .ok (.baload, 1) := by decide +kernel
theorem dX8_linesOf_98 : decode cX8_linesOf 98 = .ok (.ifCond .eq 17, 3) := by decide +kernel
theorem dX8_linesOf_101 : decode cX8_linesOf 101 = .ok (.aload_n 0, 1) := by decide +kernel
theorem dX8_linesOf_102 : decode cX8_linesOf 102 = .ok (.iload 4, 2) := by decide +kernel
theorem dX8_linesOf_104 : decode cX8_linesOf 104 = .ok (.iload_n 3, 1) := by decide +kernel
theorem dX8_linesOf_105 : decode cX8_linesOf 105 = .ok (.invokevirtual 223, 3) := by decide +kernel
theorem dX8_linesOf_108 : decode cX8_linesOf 108 = .ok (.ifCond .eq 7, 3) := by decide +kernel
theorem dX8_linesOf_111 : decode cX8_linesOf 111 = .ok (.iconst 1, 1) := by decide +kernel
theorem dX8_linesOf_112 : decode cX8_linesOf 112 = .ok (.goto 4, 3) := by decide +kernel
theorem dX8_linesOf_115 : decode cX8_linesOf 115 = .ok (.iconst 0, 1) := by decide +kernel
theorem dX8_linesOf_116 : decode cX8_linesOf 116 = .ok (.istore 5, 2) := by decide +kernel
theorem dX8_linesOf_118 : decode cX8_linesOf 118 = .ok (.iconst 0, 1) := by decide +kernel
theorem dX8_linesOf_119 : decode cX8_linesOf 119 = .ok (.istore 6, 2) := by decide +kernel
theorem dX8_linesOf_121 : decode cX8_linesOf 121 = .ok (.iload 6, 2) := by decide +kernel
theorem dX8_linesOf_123 : decode cX8_linesOf 123 = .ok (.iload_n 2, 1) := by decide +kernel
theorem dX8_linesOf_124 : decode cX8_linesOf 124 = .ok (.if_icmp .gt 67, 3) := by decide +kernel
theorem dX8_linesOf_127 : decode cX8_linesOf 127 = .ok (.iload 5, 2) := by decide +kernel
theorem dX8_linesOf_129 : decode cX8_linesOf 129 = .ok (.ifCond .eq 62, 3) := by decide +kernel
theorem dX8_linesOf_132 : decode cX8_linesOf 132 = .ok (.iload 6, 2) := by decide +kernel
theorem dX8_linesOf_134 : decode cX8_linesOf 134 = .ok (.iload 4, 2) := by decide +kernel
theorem dX8_linesOf_136 : decode cX8_linesOf 136 = .ok (.iand, 1) := by decide +kernel
theorem dX8_linesOf_137 : decode cX8_linesOf 137 = .ok (.ifCond .ne 48, 3) := by decide +kernel
theorem dX8_linesOf_140 : decode cX8_linesOf 140 = .ok (.aload_n 0, 1) := by decide +kernel
theorem dX8_linesOf_141 : decode cX8_linesOf 141 = .ok (.getfield 35, 3) := by decide +kernel
theorem dX8_linesOf_144 : decode cX8_linesOf 144 = .ok (.iload 6, 2) := by decide +kernel
theorem dX8_linesOf_146 : decode cX8_linesOf 146 = .ok (.laload, 1) := by decide +kernel
theorem dX8_linesOf_147 : decode cX8_linesOf 147 = .ok (.lconst 0, 1) := by decide +kernel
theorem dX8_linesOf_148 : decode cX8_linesOf 148 = .ok (.lcmp, 1) := by decide +kernel
theorem dX8_linesOf_149 : decode cX8_linesOf 149 = .ok (.ifCond .le 36, 3) := by decide +kernel
theorem dX8_linesOf_152 : decode cX8_linesOf 152 = .ok (.aload_n 0, 1) := by decide +kernel
theorem dX8_linesOf_153 : decode cX8_linesOf 153 = .ok (.getfield 28, 3) := by decide +kernel
theorem dX8_linesOf_156 : decode cX8_linesOf 156 = .ok (.iload 6, 2) := by decide +kernel
theorem dX8_linesOf_158 : decode cX8_linesOf 158 = .ok (.iload 4, 2) := by decide +kernel
theorem dX8_linesOf_160 : decode cX8_linesOf 160 = .ok (.ior, 1) := by decide +kernel
theorem dX8_linesOf_161 : decode cX8_linesOf 161 = .ok (.baload, 1) := by decide +kernel
theorem dX8_linesOf_162 : decode cX8_linesOf 162 = .ok (.ifCond .eq 23, 3) := by decide +kernel
theorem dX8_linesOf_165 : decode cX8_linesOf 165 = .ok (.aload_n 0, 1) := by decide +kernel
theorem dX8_linesOf_166 : decode cX8_linesOf 166 = .ok (.getfield 39, 3) := by decide +kernel
theorem dX8_linesOf_169 : decode cX8_linesOf 169 = .ok (.iload 6, 2) := by decide +kernel
theorem dX8_linesOf_171 : decode cX8_linesOf 171 = .ok (.iload 4, 2) := by decide +kernel
theorem dX8_linesOf_173 : decode cX8_linesOf 173 = .ok (.ior, 1) := by decide +kernel
theorem dX8_linesOf_174 : decode cX8_linesOf 174 = .ok (.dup2, 1) := by decide +kernel
theorem dX8_linesOf_175 : decode cX8_linesOf 175 = .ok (.laload, 1) := by decide +kernel
theorem dX8_linesOf_176 : decode cX8_linesOf 176 = .ok (.aload_n 0, 1) := by decide +kernel
theorem dX8_linesOf_177 : decode cX8_linesOf 177 = .ok (.getfield 35, 3) := by decide +kernel
theorem dX8_linesOf_180 : decode cX8_linesOf 180 = .ok (.iload 6, 2) := by decide +kernel
theorem dX8_linesOf_182 : decode cX8_linesOf 182 = .ok (.laload, 1) := by decide +kernel
theorem dX8_linesOf_183 : decode cX8_linesOf 183 = .ok (.ladd, 1) := by decide +kernel
theorem dX8_linesOf_184 : decode cX8_linesOf 184 = .ok (.lastore, 1) := by decide +kernel
theorem dX8_linesOf_185 : decode cX8_linesOf 185 = .ok (.iinc 6 1, 3) := by decide +kernel
theorem dX8_linesOf_188 : decode cX8_linesOf 188 = .ok (.goto (-67), 3) := by decide +kernel
theorem dX8_linesOf_191 : decode cX8_linesOf 191 = .ok (.iinc 4 1, 3) := by decide +kernel
theorem dX8_linesOf_194 : decode cX8_linesOf 194 = .ok (.goto (-121), 3) := by decide +kernel
theorem dX8_linesOf_197 : decode cX8_linesOf 197 = .ok (.iconst 0, 1) := by decide +kernel
theorem dX8_linesOf_198 : decode cX8_linesOf 198 = .ok (.istore 4, 2) := by decide +kernel
theorem dX8_linesOf_200 : decode cX8_linesOf 200 = .ok (.iload 4, 2) := by decide +kernel
theorem dX8_linesOf_202 : decode cX8_linesOf 202 = .ok (.iload_n 2, 1) := by decide +kernel
theorem dX8_linesOf_203 : decode cX8_linesOf 203 = .ok (.if_icmp .gt 23, 3) := by decide +kernel
theorem dX8_linesOf_206 : decode cX8_linesOf 206 = .ok (.aload_n 0, 1) := by decide +kernel
theorem dX8_linesOf_207 : decode cX8_linesOf 207 = .ok (.getfield 35, 3) := by decide +kernel
theorem dX8_linesOf_210 : decode cX8_linesOf 210 = .ok (.iload 4, 2) := by decide +kernel
theorem dX8_linesOf_212 : decode cX8_linesOf 212 = .ok (.aload_n 0, 1) := by decide +kernel
theorem dX8_linesOf_213 : decode cX8_linesOf 213 = .ok (.getfield 39, 3) := by decide +kernel
theorem dX8_linesOf_216 : decode cX8_linesOf 216 = .ok (.iload 4, 2) := by decide +kernel
theorem dX8_linesOf_218 : decode cX8_linesOf 218 = .ok (.laload, 1) := by decide +kernel
theorem dX8_linesOf_219 : decode cX8_linesOf 219 = .ok (.lastore, 1) := by decide +kernel
theorem dX8_linesOf_220 : decode cX8_linesOf 220 = .ok (.iinc 4 1, 3) := by decide +kernel
theorem dX8_linesOf_223 : decode cX8_linesOf 223 = .ok (.goto (-23), 3) := by decide +kernel
theorem dX8_linesOf_226 : decode cX8_linesOf 226 = .ok (.iinc 3 1, 3) := by decide +kernel
theorem dX8_linesOf_229 : decode cX8_linesOf 229 = .ok (.goto (-187), 3) := by decide +kernel
theorem dX8_linesOf_232 : decode cX8_linesOf 232 = .ok (.aload_n 0, 1) := by decide +kernel
theorem dX8_linesOf_233 : decode cX8_linesOf 233 = .ok (.getfield 35, 3) := by decide +kernel
theorem dX8_linesOf_236 : decode cX8_linesOf 236 = .ok (.iload_n 2, 1) := by decide +kernel
theorem dX8_linesOf_237 : decode cX8_linesOf 237 = .ok (.laload, 1) := by decide +kernel
theorem dX8_linesOf_238 : decode cX8_linesOf 238 = .ok (.lreturn, 1) := by decide +kernel
theorem dX8_tellsNothing_0 : decode cX8_tellsNothing 0 = .ok (.iconst 0, 1) := by decide +kernel
theorem dX8_tellsNothing_1 : decode cX8_tellsNothing 1 = .ok (.istore_n 1, 1) := by decide +kernel
theorem dX8_tellsNothing_2 : decode cX8_tellsNothing 2 = .ok (.iload_n 1, 1) := by decide +kernel
theorem dX8_tellsNothing_3 : decode cX8_tellsNothing 3 = .ok (.bipush 8, 2) := by decide +kernel
theorem dX8_tellsNothing_5 : decode cX8_tellsNothing 5 = .ok (.if_icmp .ge 16, 3) := by decide +kernel
theorem dX8_tellsNothing_8 : decode cX8_tellsNothing 8 = .ok (.aload_n 0, 1) := by decide +kernel
theorem dX8_tellsNothing_9 : decode cX8_tellsNothing 9 = .ok (.getfield 42, 3) := by decide +kernel
theorem dX8_tellsNothing_12 : decode cX8_tellsNothing 12 = .ok (.iload_n 1, 1) := by decide +kernel
theorem dX8_tellsNothing_13 : decode cX8_tellsNothing 13 = .ok (.iconst (-1), 1) := by decide +kernel
theorem dX8_tellsNothing_14 : decode cX8_tellsNothing 14 = .ok (.iastore, 1) := by decide +kernel
theorem dX8_tellsNothing_15 : decode cX8_tellsNothing 15 = .ok (.iinc 1 1, 3) := by decide +kernel
theorem dX8_tellsNothing_18 : decode cX8_tellsNothing 18 = .ok (.goto (-16), 3) := by decide +kernel
theorem dX8_tellsNothing_21 : decode cX8_tellsNothing 21 = .ok (.return_, 1) := by decide +kernel
theorem dX8_leastOf_0 : decode cX8_leastOf 0 = .ok (.aload_n 0, 1) := by decide +kernel
theorem dX8_leastOf_1 : decode cX8_leastOf 1 = .ok (.invokevirtual 226, 3) := by decide +kernel
theorem dX8_leastOf_4 : decode cX8_leastOf 4 = .ok (.aload_n 0, 1) := by decide +kernel
theorem dX8_leastOf_5 : decode cX8_leastOf 5 = .ok (.invokevirtual 229, 3) := by decide +kernel
theorem dX8_leastOf_8 : decode cX8_leastOf 8 = .ok (.iconst 0, 1) := by decide +kernel
theorem dX8_leastOf_9 : decode cX8_leastOf 9 = .ok (.istore_n 1, 1) := by decide +kernel
theorem dX8_leastOf_10 : decode cX8_leastOf 10 = .ok (.iload_n 1, 1) := by decide +kernel
theorem dX8_leastOf_11 : decode cX8_leastOf 11 = .ok (.bipush 8, 2) := by decide +kernel
theorem dX8_leastOf_13 : decode cX8_leastOf 13 = .ok (.if_icmp .gt 21, 3) := by decide +kernel
theorem dX8_leastOf_16 : decode cX8_leastOf 16 = .ok (.aload_n 0, 1) := by decide +kernel
theorem dX8_leastOf_17 : decode cX8_leastOf 17 = .ok (.iload_n 1, 1) := by decide +kernel
theorem dX8_leastOf_18 : decode cX8_leastOf 18 = .ok (.invokevirtual 232, 3) := by decide +kernel
theorem dX8_leastOf_21 : decode cX8_leastOf 21 = .ok (.lconst 0, 1) := by decide +kernel
theorem dX8_leastOf_22 : decode cX8_leastOf 22 = .ok (.lcmp, 1) := by decide +kernel
theorem dX8_leastOf_23 : decode cX8_leastOf 23 = .ok (.ifCond .le 5, 3) := by decide +kernel
theorem dX8_leastOf_26 : decode cX8_leastOf 26 = .ok (.iload_n 1, 1) := by decide +kernel
theorem dX8_leastOf_27 : decode cX8_leastOf 27 = .ok (.ireturn, 1) := by decide +kernel
theorem dX8_leastOf_28 : decode cX8_leastOf 28 = .ok (.iinc 1 1, 3) := by decide +kernel
theorem dX8_leastOf_31 : decode cX8_leastOf 31 = .ok (.goto (-21), 3) := by decide +kernel
theorem dX8_leastOf_34 : decode cX8_leastOf 34 = .ok (.iconst (-1), 1) := by decide +kernel
theorem dX8_leastOf_35 : decode cX8_leastOf 35 = .ok (.ireturn, 1) := by decide +kernel
theorem dX8_least_0 : decode cX8_least 0 = .ok (.aload_n 0, 1) := by decide +kernel
theorem dX8_least_1 : decode cX8_least 1 = .ok (.getfield 7, 3) := by decide +kernel
theorem dX8_least_4 : decode cX8_least 4 = .ok (.bipush 16, 2) := by decide +kernel
theorem dX8_least_6 : decode cX8_least 6 = .ok (.iaload, 1) := by decide +kernel
theorem dX8_least_7 : decode cX8_least 7 = .ok (.bipush 8, 2) := by decide +kernel
theorem dX8_least_9 : decode cX8_least 9 = .ok (.if_icmp .le 9, 3) := by decide +kernel
theorem dX8_least_12 : decode cX8_least 12 = .ok (.aload_n 0, 1) := by decide +kernel
theorem dX8_least_13 : decode cX8_least 13 = .ok (.iconst 1, 1) := by decide +kernel
theorem dX8_least_14 : decode cX8_least 14 = .ok (.invokevirtual 87, 3) := by decide +kernel
theorem dX8_least_17 : decode cX8_least 17 = .ok (.ireturn, 1) := by decide +kernel
theorem dX8_least_18 : decode cX8_least 18 = .ok (.aload_n 0, 1) := by decide +kernel
theorem dX8_least_19 : decode cX8_least 19 = .ok (.invokevirtual 236, 3) := by decide +kernel
theorem dX8_least_22 : decode cX8_least 22 = .ok (.istore_n 1, 1) := by decide +kernel
theorem dX8_least_23 : decode cX8_least 23 = .ok (.iload_n 1, 1) := by decide +kernel
theorem dX8_least_24 : decode cX8_least 24 = .ok (.iconst (-1), 1) := by decide +kernel
theorem dX8_least_25 : decode cX8_least 25 = .ok (.if_icmp .ne 11, 3) := by decide +kernel
theorem dX8_least_28 : decode cX8_least 28 = .ok (.aload_n 0, 1) := by decide +kernel
theorem dX8_least_29 : decode cX8_least 29 = .ok (.iconst 2, 1) := by decide +kernel
theorem dX8_least_30 : decode cX8_least 30 = .ok (.invokevirtual 87, 3) := by decide +kernel
theorem dX8_least_33 : decode cX8_least 33 = .ok (.goto 8, 3) := by decide +kernel
theorem dX8_least_36 : decode cX8_least 36 = .ok (.aload_n 0, 1) := by decide +kernel
theorem dX8_least_37 : decode cX8_least 37 = .ok (.iload_n 1, 1) := by decide +kernel
theorem dX8_least_38 : decode cX8_least 38 = .ok (.invokevirtual 91, 3) := by decide +kernel
theorem dX8_least_41 : decode cX8_least 41 = .ok (.ireturn, 1) := by decide +kernel
theorem dX8_ways_0 : decode cX8_ways 0 = .ok (.iload_n 1, 1) := by decide +kernel
theorem dX8_ways_1 : decode cX8_ways 1 = .ok (.iconst 0, 1) := by decide +kernel
theorem dX8_ways_2 : decode cX8_ways 2 = .ok (.bipush 8, 2) := by decide +kernel
theorem dX8_ways_4 : decode cX8_ways 4 = .ok (.invokestatic 74, 3) := by decide +kernel
theorem dX8_ways_7 : decode cX8_ways 7 = .ok (.ifCond .eq 15, 3) := by decide +kernel
theorem dX8_ways_10 : decode cX8_ways 10 = .ok (.aload_n 0, 1) := by decide +kernel
theorem dX8_ways_11 : decode cX8_ways 11 = .ok (.getfield 7, 3) := by decide +kernel
theorem dX8_ways_14 : decode cX8_ways 14 = .ok (.bipush 16, 2) := by decide +kernel
theorem dX8_ways_16 : decode cX8_ways 16 = .ok (.iaload, 1) := by decide +kernel
theorem dX8_ways_17 : decode cX8_ways 17 = .ok (.bipush 8, 2) := by decide +kernel
theorem dX8_ways_19 : decode cX8_ways 19 = .ok (.if_icmp .le 24, 3) := by decide +kernel
theorem dX8_ways_22 : decode cX8_ways 22 = .ok (.aload_n 0, 1) := by decide +kernel
theorem dX8_ways_23 : decode cX8_ways 23 = .ok (.iload_n 1, 1) := by decide +kernel
theorem dX8_ways_24 : decode cX8_ways 24 = .ok (.iconst 0, 1) := by decide +kernel
theorem dX8_ways_25 : decode cX8_ways 25 = .ok (.bipush 8, 2) := by decide +kernel
theorem dX8_ways_27 : decode cX8_ways 27 = .ok (.invokestatic 74, 3) := by decide +kernel
theorem dX8_ways_30 : decode cX8_ways 30 = .ok (.ifCond .ne 7, 3) := by decide +kernel
theorem dX8_ways_33 : decode cX8_ways 33 = .ok (.iconst 1, 1) := by decide +kernel
theorem dX8_ways_34 : decode cX8_ways 34 = .ok (.goto 4, 3) := by decide +kernel
theorem dX8_ways_37 : decode cX8_ways 37 = .ok (.iconst 2, 1) := by decide +kernel
theorem dX8_ways_38 : decode cX8_ways 38 = .ok (.invokevirtual 87, 3) := by decide +kernel
theorem dX8_ways_41 : decode cX8_ways 41 = .ok (.i2l, 1) := by decide +kernel
theorem dX8_ways_42 : decode cX8_ways 42 = .ok (.lreturn, 1) := by decide +kernel
theorem dX8_ways_43 : decode cX8_ways 43 = .ok (.aload_n 0, 1) := by decide +kernel
theorem dX8_ways_44 : decode cX8_ways 44 = .ok (.invokevirtual 226, 3) := by decide +kernel
theorem dX8_ways_47 : decode cX8_ways 47 = .ok (.aload_n 0, 1) := by decide +kernel
theorem dX8_ways_48 : decode cX8_ways 48 = .ok (.invokevirtual 229, 3) := by decide +kernel
theorem dX8_ways_51 : decode cX8_ways 51 = .ok (.aload_n 0, 1) := by decide +kernel
theorem dX8_ways_52 : decode cX8_ways 52 = .ok (.iconst 0, 1) := by decide +kernel
theorem dX8_ways_53 : decode cX8_ways 53 = .ok (.putfield 70, 3) := by decide +kernel
theorem dX8_ways_56 : decode cX8_ways 56 = .ok (.aload_n 0, 1) := by decide +kernel
theorem dX8_ways_57 : decode cX8_ways 57 = .ok (.iload_n 1, 1) := by decide +kernel
theorem dX8_ways_58 : decode cX8_ways 58 = .ok (.invokevirtual 232, 3) := by decide +kernel
theorem dX8_ways_61 : decode cX8_ways 61 = .ok (.lreturn, 1) := by decide +kernel
theorem dX8_takeLeast_0 : decode cX8_takeLeast 0 = .ok (.aload_n 0, 1) := by decide +kernel
theorem dX8_takeLeast_1 : decode cX8_takeLeast 1 = .ok (.getfield 7, 3) := by decide +kernel
theorem dX8_takeLeast_4 : decode cX8_takeLeast 4 = .ok (.bipush 16, 2) := by decide +kernel
theorem dX8_takeLeast_6 : decode cX8_takeLeast 6 = .ok (.iaload, 1) := by decide +kernel
theorem dX8_takeLeast_7 : decode cX8_takeLeast 7 = .ok (.bipush 8, 2) := by decide +kernel
theorem dX8_takeLeast_9 : decode cX8_takeLeast 9 = .ok (.if_icmp .le 9, 3) := by decide +kernel
theorem dX8_takeLeast_12 : decode cX8_takeLeast 12 = .ok (.aload_n 0, 1) := by decide +kernel
theorem dX8_takeLeast_13 : decode cX8_takeLeast 13 = .ok (.iconst 1, 1) := by decide +kernel
theorem dX8_takeLeast_14 : decode cX8_takeLeast 14 = .ok (.invokevirtual 87, 3) := by decide +kernel
theorem dX8_takeLeast_17 : decode cX8_takeLeast 17 = .ok (.ireturn, 1) := by decide +kernel
theorem dX8_takeLeast_18 : decode cX8_takeLeast 18 = .ok (.aload_n 0, 1) := by decide +kernel
theorem dX8_takeLeast_19 : decode cX8_takeLeast 19 = .ok (.invokevirtual 236, 3) := by decide +kernel
theorem dX8_takeLeast_22 : decode cX8_takeLeast 22 = .ok (.istore_n 1, 1) := by decide +kernel
theorem dX8_takeLeast_23 : decode cX8_takeLeast 23 = .ok (.iload_n 1, 1) := by decide +kernel
theorem dX8_takeLeast_24 : decode cX8_takeLeast 24 = .ok (.iconst (-1), 1) := by decide +kernel
theorem dX8_takeLeast_25 : decode cX8_takeLeast 25 = .ok (.if_icmp .ne 9, 3) := by decide +kernel
theorem dX8_takeLeast_28 : decode cX8_takeLeast 28 = .ok (.aload_n 0, 1) := by decide +kernel
theorem dX8_takeLeast_29 : decode cX8_takeLeast 29 = .ok (.iconst 2, 1) := by decide +kernel
theorem dX8_takeLeast_30 : decode cX8_takeLeast 30 = .ok (.invokevirtual 87, 3) := by decide +kernel
theorem dX8_takeLeast_33 : decode cX8_takeLeast 33 = .ok (.ireturn, 1) := by decide +kernel
theorem dX8_takeLeast_34 : decode cX8_takeLeast 34 = .ok (.aload_n 0, 1) := by decide +kernel
theorem dX8_takeLeast_35 : decode cX8_takeLeast 35 = .ok (.invokevirtual 84, 3) := by decide +kernel
theorem dX8_takeLeast_38 : decode cX8_takeLeast 38 = .ok (.iconst 0, 1) := by decide +kernel
theorem dX8_takeLeast_39 : decode cX8_takeLeast 39 = .ok (.istore_n 2, 1) := by decide +kernel
theorem dX8_takeLeast_40 : decode cX8_takeLeast 40 = .ok (.iconst 0, 1) := by decide +kernel
theorem dX8_takeLeast_41 : decode cX8_takeLeast 41 = .ok (.istore_n 3, 1) := by decide +kernel
theorem dX8_takeLeast_42 : decode cX8_takeLeast 42 = .ok (.iload_n 3, 1) := by decide +kernel
theorem dX8_takeLeast_43 : decode cX8_takeLeast 43 = .ok (.aload_n 0, 1) := by decide +kernel
theorem dX8_takeLeast_44 : decode cX8_takeLeast 44 = .ok (.getfield 7, 3) := by decide +kernel
theorem dX8_takeLeast_47 : decode cX8_takeLeast 47 = .ok (.bipush 16, 2) := by decide +kernel
theorem dX8_takeLeast_49 : decode cX8_takeLeast 49 = .ok (.iaload, 1) := by decide +kernel
theorem dX8_takeLeast_50 : decode cX8_takeLeast 50 = .ok (.if_icmp .ge 62, 3) := by decide +kernel
theorem dX8_takeLeast_53 : decode cX8_takeLeast 53 = .ok (.aload_n 0, 1) := by decide +kernel
theorem dX8_takeLeast_54 : decode cX8_takeLeast 54 = .ok (.getfield 42, 3) := by decide +kernel
theorem dX8_takeLeast_57 : decode cX8_takeLeast 57 = .ok (.iload_n 3, 1) := by decide +kernel
theorem dX8_takeLeast_58 : decode cX8_takeLeast 58 = .ok (.iconst 0, 1) := by decide +kernel
theorem dX8_takeLeast_59 : decode cX8_takeLeast 59 = .ok (.iastore, 1) := by decide +kernel
theorem dX8_takeLeast_60 : decode cX8_takeLeast 60 = .ok (.aload_n 0, 1) := by decide +kernel
theorem dX8_takeLeast_61 : decode cX8_takeLeast 61 = .ok (.iload_n 1, 1) := by decide +kernel
theorem dX8_takeLeast_62 : decode cX8_takeLeast 62 = .ok (.invokevirtual 232, 3) := by decide +kernel
theorem dX8_takeLeast_65 : decode cX8_takeLeast 65 = .ok (.lconst 0, 1) := by decide +kernel
theorem dX8_takeLeast_66 : decode cX8_takeLeast 66 = .ok (.lcmp, 1) := by decide +kernel
theorem dX8_takeLeast_67 : decode cX8_takeLeast 67 = .ok (.ifCond .ne 16, 3) := by decide +kernel
theorem dX8_takeLeast_70 : decode cX8_takeLeast 70 = .ok (.aload_n 0, 1) := by decide +kernel
theorem dX8_takeLeast_71 : decode cX8_takeLeast 71 = .ok (.getfield 42, 3) := by decide +kernel
theorem dX8_takeLeast_74 : decode cX8_takeLeast 74 = .ok (.iload_n 3, 1) := by decide +kernel
theorem dX8_takeLeast_75 : decode cX8_takeLeast 75 = .ok (.dup2, 1) := by decide +kernel
theorem dX8_takeLeast_76 : decode cX8_takeLeast 76 = .ok (.iaload, 1) := by decide +kernel
theorem dX8_takeLeast_77 : decode cX8_takeLeast 77 = .ok (.iconst 1, 1) := by decide +kernel
theorem dX8_takeLeast_78 : decode cX8_takeLeast 78 = .ok (.iadd, 1) := by decide +kernel
theorem dX8_takeLeast_79 : decode cX8_takeLeast 79 = .ok (.iastore, 1) := by decide +kernel
theorem dX8_takeLeast_80 : decode cX8_takeLeast 80 = .ok (.goto (-20), 3) := by decide +kernel
theorem dX8_takeLeast_83 : decode cX8_takeLeast 83 = .ok (.iload_n 2, 1) := by decide +kernel
theorem dX8_takeLeast_84 : decode cX8_takeLeast 84 = .ok (.aload_n 0, 1) := by decide +kernel
theorem dX8_takeLeast_85 : decode cX8_takeLeast 85 = .ok (.iload_n 3, 1) := by decide +kernel
theorem dX8_takeLeast_86 : decode cX8_takeLeast 86 = .ok (.iconst 4, 1) := by decide +kernel
theorem dX8_takeLeast_87 : decode cX8_takeLeast 87 = .ok (.invokevirtual 124, 3) := by decide +kernel
theorem dX8_takeLeast_90 : decode cX8_takeLeast 90 = .ok (.aload_n 0, 1) := by decide +kernel
theorem dX8_takeLeast_91 : decode cX8_takeLeast 91 = .ok (.getfield 42, 3) := by decide +kernel
theorem dX8_takeLeast_94 : decode cX8_takeLeast 94 = .ok (.iload_n 3, 1) := by decide +kernel
theorem dX8_takeLeast_95 : decode cX8_takeLeast 95 = .ok (.iaload, 1) := by decide +kernel
theorem dX8_takeLeast_96 : decode cX8_takeLeast 96 = .ok (.if_icmp .eq 7, 3) := by decide +kernel
theorem dX8_takeLeast_99 : decode cX8_takeLeast 99 = .ok (.iconst 1, 1) := by decide +kernel
theorem dX8_takeLeast_100 : decode cX8_takeLeast 100 = .ok (.goto 4, 3) := by decide +kernel
theorem dX8_takeLeast_103 : decode cX8_takeLeast 103 = .ok (.iconst 0, 1) := by decide +kernel
theorem dX8_takeLeast_104 : decode cX8_takeLeast 104 = .ok (.iadd, 1) := by decide +kernel
theorem dX8_takeLeast_105 : decode cX8_takeLeast 105 = .ok (.istore_n 2, 1) := by decide +kernel
theorem dX8_takeLeast_106 : decode cX8_takeLeast 106 = .ok (.iinc 3 1, 3) := by decide +kernel
theorem dX8_takeLeast_109 : decode cX8_takeLeast 109 = .ok (.goto (-67), 3) := by decide +kernel
theorem dX8_takeLeast_112 : decode cX8_takeLeast 112 = .ok (.iconst 0, 1) := by decide +kernel
theorem dX8_takeLeast_113 : decode cX8_takeLeast 113 = .ok (.istore_n 3, 1) := by decide +kernel
theorem dX8_takeLeast_114 : decode cX8_takeLeast 114 = .ok (.iload_n 3, 1) := by decide +kernel
theorem dX8_takeLeast_115 : decode cX8_takeLeast 115 = .ok (.aload_n 0, 1) := by decide +kernel
theorem dX8_takeLeast_116 : decode cX8_takeLeast 116 = .ok (.getfield 7, 3) := by decide +kernel
theorem dX8_takeLeast_119 : decode cX8_takeLeast 119 = .ok (.bipush 16, 2) := by decide +kernel
theorem dX8_takeLeast_121 : decode cX8_takeLeast 121 = .ok (.iaload, 1) := by decide +kernel
theorem dX8_takeLeast_122 : decode cX8_takeLeast 122 = .ok (.if_icmp .ge 21, 3) := by decide +kernel
theorem dX8_takeLeast_125 : decode cX8_takeLeast 125 = .ok (.aload_n 0, 1) := by decide +kernel
theorem dX8_takeLeast_126 : decode cX8_takeLeast 126 = .ok (.iload_n 3, 1) := by decide +kernel
theorem dX8_takeLeast_127 : decode cX8_takeLeast 127 = .ok (.iconst 4, 1) := by decide +kernel
theorem dX8_takeLeast_128 : decode cX8_takeLeast 128 = .ok (.aload_n 0, 1) := by decide +kernel
theorem dX8_takeLeast_129 : decode cX8_takeLeast 129 = .ok (.getfield 42, 3) := by decide +kernel
theorem dX8_takeLeast_132 : decode cX8_takeLeast 132 = .ok (.iload_n 3, 1) := by decide +kernel
theorem dX8_takeLeast_133 : decode cX8_takeLeast 133 = .ok (.iaload, 1) := by decide +kernel
theorem dX8_takeLeast_134 : decode cX8_takeLeast 134 = .ok (.invokevirtual 113, 3) := by decide +kernel
theorem dX8_takeLeast_137 : decode cX8_takeLeast 137 = .ok (.iinc 3 1, 3) := by decide +kernel
theorem dX8_takeLeast_140 : decode cX8_takeLeast 140 = .ok (.goto (-26), 3) := by decide +kernel
theorem dX8_takeLeast_143 : decode cX8_takeLeast 143 = .ok (.aload_n 0, 1) := by decide +kernel
theorem dX8_takeLeast_144 : decode cX8_takeLeast 144 = .ok (.aload_n 0, 1) := by decide +kernel
theorem dX8_takeLeast_145 : decode cX8_takeLeast 145 = .ok (.iload_n 2, 1) := by decide +kernel
theorem dX8_takeLeast_146 : decode cX8_takeLeast 146 = .ok (.invokevirtual 91, 3) := by decide +kernel
theorem dX8_takeLeast_149 : decode cX8_takeLeast 149 = .ok (.invokevirtual 94, 3) := by decide +kernel
theorem dX8_takeLeast_152 : decode cX8_takeLeast 152 = .ok (.ireturn, 1) := by decide +kernel
theorem dX8_feed_0 : decode cX8_feed 0 = .ok (.aload_n 0, 1) := by decide +kernel
theorem dX8_feed_1 : decode cX8_feed 1 = .ok (.getfield 239, 3) := by decide +kernel
theorem dX8_feed_4 : decode cX8_feed 4 = .ok (.bipush 80, 2) := by decide +kernel
theorem dX8_feed_6 : decode cX8_feed 6 = .ok (.if_icmp .ne 9, 3) := by decide +kernel
theorem dX8_feed_9 : decode cX8_feed 9 = .ok (.aload_n 0, 1) := by decide +kernel
theorem dX8_feed_10 : decode cX8_feed 10 = .ok (.iconst 1, 1) := by decide +kernel
theorem dX8_feed_11 : decode cX8_feed 11 = .ok (.invokevirtual 87, 3) := by decide +kernel
theorem dX8_feed_14 : decode cX8_feed 14 = .ok (.ireturn, 1) := by decide +kernel
theorem dX8_feed_15 : decode cX8_feed 15 = .ok (.aload_n 0, 1) := by decide +kernel
theorem dX8_feed_16 : decode cX8_feed 16 = .ok (.getfield 45, 3) := by decide +kernel
theorem dX8_feed_19 : decode cX8_feed 19 = .ok (.aload_n 0, 1) := by decide +kernel
theorem dX8_feed_20 : decode cX8_feed 20 = .ok (.getfield 239, 3) := by decide +kernel
theorem dX8_feed_23 : decode cX8_feed 23 = .ok (.iload_n 1, 1) := by decide +kernel
theorem dX8_feed_24 : decode cX8_feed 24 = .ok (.castore, 1) := by decide +kernel
theorem dX8_feed_25 : decode cX8_feed 25 = .ok (.aload_n 0, 1) := by decide +kernel
theorem dX8_feed_26 : decode cX8_feed 26 = .ok (.dup, 1) := by decide +kernel
theorem dX8_feed_27 : decode cX8_feed 27 = .ok (.getfield 239, 3) := by decide +kernel
theorem dX8_feed_30 : decode cX8_feed 30 = .ok (.iconst 1, 1) := by decide +kernel
theorem dX8_feed_31 : decode cX8_feed 31 = .ok (.iadd, 1) := by decide +kernel
theorem dX8_feed_32 : decode cX8_feed 32 = .ok (.putfield 239, 3) := by decide +kernel
theorem dX8_feed_35 : decode cX8_feed 35 = .ok (.aload_n 0, 1) := by decide +kernel
theorem dX8_feed_36 : decode cX8_feed 36 = .ok (.aload_n 0, 1) := by decide +kernel
theorem dX8_feed_37 : decode cX8_feed 37 = .ok (.getfield 239, 3) := by decide +kernel
theorem dX8_feed_40 : decode cX8_feed 40 = .ok (.invokevirtual 91, 3) := by decide +kernel
theorem dX8_feed_43 : decode cX8_feed 43 = .ok (.ireturn, 1) := by decide +kernel
theorem dX8_here_0 : decode cX8_here 0 = .ok (.aload_n 0, 1) := by decide +kernel
theorem dX8_here_1 : decode cX8_here 1 = .ok (.getfield 242, 3) := by decide +kernel
theorem dX8_here_4 : decode cX8_here 4 = .ok (.aload_n 0, 1) := by decide +kernel
theorem dX8_here_5 : decode cX8_here 5 = .ok (.getfield 239, 3) := by decide +kernel
theorem dX8_here_8 : decode cX8_here 8 = .ok (.if_icmp .ge 15, 3) := by decide +kernel
theorem dX8_here_11 : decode cX8_here 11 = .ok (.aload_n 0, 1) := by decide +kernel
theorem dX8_here_12 : decode cX8_here 12 = .ok (.getfield 45, 3) := by decide +kernel
theorem dX8_here_15 : decode cX8_here 15 = .ok (.aload_n 0, 1) := by decide +kernel
theorem dX8_here_16 : decode cX8_here 16 = .ok (.getfield 242, 3) := by decide +kernel
theorem dX8_here_19 : decode cX8_here 19 = .ok (.caload, 1) := by decide +kernel
theorem dX8_here_20 : decode cX8_here 20 = .ok (.goto 4, 3) := by decide +kernel
theorem dX8_here_23 : decode cX8_here 23 = .ok (.iconst 0, 1) := by decide +kernel
theorem dX8_here_24 : decode cX8_here 24 = .ok (.ireturn, 1) := by decide +kernel
theorem dX8_readsWord_0 : decode cX8_readsWord 0 = .ok (.aload_n 0, 1) := by decide +kernel
theorem dX8_readsWord_1 : decode cX8_readsWord 1 = .ok (.getfield 242, 3) := by decide +kernel
theorem dX8_readsWord_4 : decode cX8_readsWord 4 = .ok (.istore_n 1, 1) := by decide +kernel
theorem dX8_readsWord_5 : decode cX8_readsWord 5 = .ok (.iload_n 1, 1) := by decide +kernel
theorem dX8_readsWord_6 : decode cX8_readsWord 6 = .ok (.aload_n 0, 1) := by decide +kernel
theorem dX8_readsWord_7 : decode cX8_readsWord 7 = .ok (.getfield 239, 3) := by decide +kernel
theorem dX8_readsWord_10 : decode cX8_readsWord 10 = .ok (.if_icmp .ge 25, 3) := by decide +kernel
theorem dX8_readsWord_13 : decode cX8_readsWord 13 = .ok (.aload_n 0, 1) := by decide +kernel
theorem dX8_readsWord_14 : decode cX8_readsWord 14 = .ok (.getfield 45, 3) := by decide +kernel
theorem dX8_readsWord_17 : decode cX8_readsWord 17 = .ok (.iload_n 1, 1) := by decide +kernel
theorem dX8_readsWord_18 : decode cX8_readsWord 18 = .ok (.caload, 1) := by decide +kernel
theorem dX8_readsWord_19 : decode cX8_readsWord 19 = .ok (.bipush 97, 2) := by decide +kernel
theorem dX8_readsWord_21 : decode cX8_readsWord 21 = .ok (.bipush 122, 2) := by decide +kernel
theorem dX8_readsWord_23 : decode cX8_readsWord 23 = .ok (.invokestatic 74, 3) := by decide +kernel
theorem dX8_readsWord_26 : decode cX8_readsWord 26 = .ok (.ifCond .eq 9, 3) := by decide +kernel
theorem dX8_readsWord_29 : decode cX8_readsWord 29 = .ok (.iinc 1 1, 3) := by decide +kernel
theorem dX8_readsWord_32 : decode cX8_readsWord 32 = .ok (.goto (-27), 3) := by decide +kernel
theorem dX8_readsWord_35 : decode cX8_readsWord 35 = .ok (.iconst 0, 1) := by decide +kernel
theorem dX8_readsWord_36 : decode cX8_readsWord 36 = .ok (.istore_n 2, 1) := by decide +kernel
theorem dX8_readsWord_37 : decode cX8_readsWord 37 = .ok (.iload_n 2, 1) := by decide +kernel
theorem dX8_readsWord_38 : decode cX8_readsWord 38 = .ok (.bipush 6, 2) := by decide +kernel
theorem dX8_readsWord_40 : decode cX8_readsWord 40 = .ok (.if_icmp .ge 100, 3) := by decide +kernel
theorem dX8_readsWord_43 : decode cX8_readsWord 43 = .ok (.aload_n 0, 1) := by decide +kernel
theorem dX8_readsWord_44 : decode cX8_readsWord 44 = .ok (.getfield 66, 3) := by decide +kernel
theorem dX8_readsWord_47 : decode cX8_readsWord 47 = .ok (.iload_n 2, 1) := by decide +kernel
theorem dX8_readsWord_48 : decode cX8_readsWord 48 = .ok (.aaload, 1) := by decide +kernel
theorem dX8_readsWord_49 : decode cX8_readsWord 49 = .ok (.invokevirtual 245, 3) := by decide +kernel
theorem dX8_readsWord_52 : decode cX8_readsWord 52 = .ok (.iload_n 1, 1) := by decide +kernel
theorem dX8_readsWord_53 : decode cX8_readsWord 53 = .ok (.aload_n 0, 1) := by decide +kernel
theorem dX8_readsWord_54 : decode cX8_readsWord 54 = .ok (.getfield 242, 3) := by decide +kernel
theorem dX8_readsWord_57 : decode cX8_readsWord 57 = .ok (.isub, 1) := by decide +kernel
theorem dX8_readsWord_58 : decode cX8_readsWord 58 = .ok (.if_icmp .ne 7, 3) := by decide +kernel
theorem dX8_readsWord_61 : decode cX8_readsWord 61 = .ok (.iconst 1, 1) := by decide +kernel
theorem dX8_readsWord_62 : decode cX8_readsWord 62 = .ok (.goto 4, 3) := by decide +kernel
theorem dX8_readsWord_65 : decode cX8_readsWord 65 = .ok (.iconst 0, 1) := by decide +kernel
theorem dX8_readsWord_66 : decode cX8_readsWord 66 = .ok (.istore_n 3, 1) := by decide +kernel
theorem dX8_readsWord_67 : decode cX8_readsWord 67 = .ok (.iconst 0, 1) := by decide +kernel
theorem dX8_readsWord_68 : decode cX8_readsWord 68 = .ok (.istore 4, 2) := by decide +kernel
theorem dX8_readsWord_70 : decode cX8_readsWord 70 = .ok (.iload_n 3, 1) := by decide +kernel
theorem dX8_readsWord_71 : decode cX8_readsWord 71 = .ok (.ifCond .eq 52, 3) := by decide +kernel
theorem dX8_readsWord_74 : decode cX8_readsWord 74 = .ok (.iload 4, 2) := by decide +kernel
theorem dX8_readsWord_76 : decode cX8_readsWord 76 = .ok (.iload_n 1, 1) := by decide +kernel
theorem dX8_readsWord_77 : decode cX8_readsWord 77 = .ok (.aload_n 0, 1) := by decide +kernel
theorem dX8_readsWord_78 : decode cX8_readsWord 78 = .ok (.getfield 242, 3) := by decide +kernel
theorem dX8_readsWord_81 : decode cX8_readsWord 81 = .ok (.isub, 1) := by decide +kernel
theorem dX8_readsWord_82 : decode cX8_readsWord 82 = .ok (.if_icmp .ge 41, 3) := by decide +kernel
theorem dX8_readsWord_85 : decode cX8_readsWord 85 = .ok (.aload_n 0, 1) := by decide +kernel
theorem dX8_readsWord_86 : decode cX8_readsWord 86 = .ok (.getfield 66, 3) := by decide +kernel
theorem dX8_readsWord_89 : decode cX8_readsWord 89 = .ok (.iload_n 2, 1) := by decide +kernel
theorem dX8_readsWord_90 : decode cX8_readsWord 90 = .ok (.aaload, 1) := by decide +kernel
theorem dX8_readsWord_91 : decode cX8_readsWord 91 = .ok (.iload 4, 2) := by decide +kernel
theorem dX8_readsWord_93 : decode cX8_readsWord 93 = .ok (.invokevirtual 248, 3) := by decide +kernel
theorem dX8_readsWord_96 : decode cX8_readsWord 96 = .ok (.aload_n 0, 1) := by decide +kernel
theorem dX8_readsWord_97 : decode cX8_readsWord 97 = .ok (.getfield 45, 3) := by decide +kernel
theorem dX8_readsWord_100 : decode cX8_readsWord 100 = .ok (.aload_n 0, 1) := by decide +kernel
theorem dX8_readsWord_101 : decode cX8_readsWord 101 = .ok (.getfield 242, 3) := by decide +kernel
theorem dX8_readsWord_104 : decode cX8_readsWord 104 = .ok (.iload 4, 2) := by decide +kernel
theorem dX8_readsWord_106 : decode cX8_readsWord 106 = .ok (.iadd, 1) := by decide +kernel
theorem dX8_readsWord_107 : decode cX8_readsWord 107 = .ok (.caload, 1) := by decide +kernel
theorem dX8_readsWord_108 : decode cX8_readsWord 108 = .ok (.if_icmp .ne 7, 3) := by decide +kernel
theorem dX8_readsWord_111 : decode cX8_readsWord 111 = .ok (.iconst 1, 1) := by decide +kernel
theorem dX8_readsWord_112 : decode cX8_readsWord 112 = .ok (.goto 4, 3) := by decide +kernel
theorem dX8_readsWord_115 : decode cX8_readsWord 115 = .ok (.iconst 0, 1) := by decide +kernel
theorem dX8_readsWord_116 : decode cX8_readsWord 116 = .ok (.istore_n 3, 1) := by decide +kernel
theorem dX8_readsWord_117 : decode cX8_readsWord 117 = .ok (.iinc 4 1, 3) := by decide +kernel
theorem dX8_readsWord_120 : decode cX8_readsWord 120 = .ok (.goto (-50), 3) := by decide +kernel
theorem dX8_readsWord_123 : decode cX8_readsWord 123 = .ok (.iload_n 3, 1) := by decide +kernel
theorem dX8_readsWord_124 : decode cX8_readsWord 124 = .ok (.ifCond .eq 10, 3) := by decide +kernel
theorem dX8_readsWord_127 : decode cX8_readsWord 127 = .ok (.aload_n 0, 1) := by decide +kernel
theorem dX8_readsWord_128 : decode cX8_readsWord 128 = .ok (.iload_n 1, 1) := by decide +kernel
theorem dX8_readsWord_129 : decode cX8_readsWord 129 = .ok (.putfield 242, 3) := by decide +kernel
theorem dX8_readsWord_132 : decode cX8_readsWord 132 = .ok (.iload_n 2, 1) := by decide +kernel
theorem dX8_readsWord_133 : decode cX8_readsWord 133 = .ok (.ireturn, 1) := by decide +kernel
theorem dX8_readsWord_134 : decode cX8_readsWord 134 = .ok (.iinc 2 1, 3) := by decide +kernel
theorem dX8_readsWord_137 : decode cX8_readsWord 137 = .ok (.goto (-100), 3) := by decide +kernel
theorem dX8_readsWord_140 : decode cX8_readsWord 140 = .ok (.iconst (-1), 1) := by decide +kernel
theorem dX8_readsWord_141 : decode cX8_readsWord 141 = .ok (.ireturn, 1) := by decide +kernel
theorem dX8_readsNumber_0 : decode cX8_readsNumber 0 = .ok (.aload_n 0, 1) := by decide +kernel
theorem dX8_readsNumber_1 : decode cX8_readsNumber 1 = .ok (.invokevirtual 252, 3) := by decide +kernel
theorem dX8_readsNumber_4 : decode cX8_readsNumber 4 = .ok (.bipush 32, 2) := by decide +kernel
theorem dX8_readsNumber_6 : decode cX8_readsNumber 6 = .ok (.if_icmp .eq 5, 3) := by decide +kernel
theorem dX8_readsNumber_9 : decode cX8_readsNumber 9 = .ok (.iconst 0, 1) := by decide +kernel
theorem dX8_readsNumber_10 : decode cX8_readsNumber 10 = .ok (.ireturn, 1) := by decide +kernel
theorem dX8_readsNumber_11 : decode cX8_readsNumber 11 = .ok (.aload_n 0, 1) := by decide +kernel
theorem dX8_readsNumber_12 : decode cX8_readsNumber 12 = .ok (.dup, 1) := by decide +kernel
theorem dX8_readsNumber_13 : decode cX8_readsNumber 13 = .ok (.getfield 242, 3) := by decide +kernel
theorem dX8_readsNumber_16 : decode cX8_readsNumber 16 = .ok (.iconst 1, 1) := by decide +kernel
theorem dX8_readsNumber_17 : decode cX8_readsNumber 17 = .ok (.iadd, 1) := by decide +kernel
theorem dX8_readsNumber_18 : decode cX8_readsNumber 18 = .ok (.putfield 242, 3) := by decide +kernel
theorem dX8_readsNumber_21 : decode cX8_readsNumber 21 = .ok (.aload_n 0, 1) := by decide +kernel
theorem dX8_readsNumber_22 : decode cX8_readsNumber 22 = .ok (.getfield 242, 3) := by decide +kernel
theorem dX8_readsNumber_25 : decode cX8_readsNumber 25 = .ok (.istore_n 2, 1) := by decide +kernel
theorem dX8_readsNumber_26 : decode cX8_readsNumber 26 = .ok (.aload_n 0, 1) := by decide +kernel
theorem dX8_readsNumber_27 : decode cX8_readsNumber 27 = .ok (.getfield 49, 3) := by decide +kernel
theorem dX8_readsNumber_30 : decode cX8_readsNumber 30 = .ok (.iload_n 1, 1) := by decide +kernel
theorem dX8_readsNumber_31 : decode cX8_readsNumber 31 = .ok (.iconst 0, 1) := by decide +kernel
theorem dX8_readsNumber_32 : decode cX8_readsNumber 32 = .ok (.iastore, 1) := by decide +kernel
theorem dX8_readsNumber_33 : decode cX8_readsNumber 33 = .ok (.aload_n 0, 1) := by decide +kernel
theorem dX8_readsNumber_34 : decode cX8_readsNumber 34 = .ok (.getfield 242, 3) := by decide +kernel
theorem dX8_readsNumber_37 : decode cX8_readsNumber 37 = .ok (.iload_n 2, 1) := by decide +kernel
theorem dX8_readsNumber_38 : decode cX8_readsNumber 38 = .ok (.isub, 1) := by decide +kernel
theorem dX8_readsNumber_39 : decode cX8_readsNumber 39 = .ok (.iconst 3, 1) := by decide +kernel
theorem dX8_readsNumber_40 : decode cX8_readsNumber 40 = .ok (.if_icmp .ge 53, 3) := by decide +kernel
theorem dX8_readsNumber_43 : decode cX8_readsNumber 43 = .ok (.aload_n 0, 1) := by decide +kernel
theorem dX8_readsNumber_44 : decode cX8_readsNumber 44 = .ok (.invokevirtual 252, 3) := by decide +kernel
theorem dX8_readsNumber_47 : decode cX8_readsNumber 47 = .ok (.bipush 48, 2) := by decide +kernel
theorem dX8_readsNumber_49 : decode cX8_readsNumber 49 = .ok (.bipush 57, 2) := by decide +kernel
theorem dX8_readsNumber_51 : decode cX8_readsNumber 51 = .ok (.invokestatic 74, 3) := by decide +kernel
theorem dX8_readsNumber_54 : decode cX8_readsNumber 54 = .ok (.ifCond .eq 39, 3) := by decide +kernel
theorem dX8_readsNumber_57 : decode cX8_readsNumber 57 = .ok (.aload_n 0, 1) := by decide +kernel
theorem dX8_readsNumber_58 : decode cX8_readsNumber 58 = .ok (.getfield 49, 3) := by decide +kernel
theorem dX8_readsNumber_61 : decode cX8_readsNumber 61 = .ok (.iload_n 1, 1) := by decide +kernel
theorem dX8_readsNumber_62 : decode cX8_readsNumber 62 = .ok (.bipush 10, 2) := by decide +kernel
theorem dX8_readsNumber_64 : decode cX8_readsNumber 64 = .ok (.aload_n 0, 1) := by decide +kernel
theorem dX8_readsNumber_65 : decode cX8_readsNumber 65 = .ok (.getfield 49, 3) := by decide +kernel
theorem dX8_readsNumber_68 : decode cX8_readsNumber 68 = .ok (.iload_n 1, 1) := by decide +kernel
theorem dX8_readsNumber_69 : decode cX8_readsNumber 69 = .ok (.iaload, 1) := by decide +kernel
theorem dX8_readsNumber_70 : decode cX8_readsNumber 70 = .ok (.imul, 1) := by decide +kernel
theorem dX8_readsNumber_71 : decode cX8_readsNumber 71 = .ok (.aload_n 0, 1) := by decide +kernel
theorem dX8_readsNumber_72 : decode cX8_readsNumber 72 = .ok (.invokevirtual 252, 3) := by decide +kernel
theorem dX8_readsNumber_75 : decode cX8_readsNumber 75 = .ok (.iadd, 1) := by decide +kernel
theorem dX8_readsNumber_76 : decode cX8_readsNumber 76 = .ok (.bipush 48, 2) := by decide +kernel
theorem dX8_readsNumber_78 : decode cX8_readsNumber 78 = .ok (.isub, 1) := by decide +kernel
theorem dX8_readsNumber_79 : decode cX8_readsNumber 79 = .ok (.iastore, 1) := by decide +kernel
theorem dX8_readsNumber_80 : decode cX8_readsNumber 80 = .ok (.aload_n 0, 1) := by decide +kernel
theorem dX8_readsNumber_81 : decode cX8_readsNumber 81 = .ok (.dup, 1) := by decide +kernel
theorem dX8_readsNumber_82 : decode cX8_readsNumber 82 = .ok (.getfield 242, 3) := by decide +kernel
theorem dX8_readsNumber_85 : decode cX8_readsNumber 85 = .ok (.iconst 1, 1) := by decide +kernel
theorem dX8_readsNumber_86 : decode cX8_readsNumber 86 = .ok (.iadd, 1) := by decide +kernel
theorem dX8_readsNumber_87 : decode cX8_readsNumber 87 = .ok (.putfield 242, 3) := by decide +kernel
theorem dX8_readsNumber_90 : decode cX8_readsNumber 90 = .ok (.goto (-57), 3) := by decide +kernel
theorem dX8_readsNumber_93 : decode cX8_readsNumber 93 = .ok (.aload_n 0, 1) := by decide +kernel
theorem dX8_readsNumber_94 : decode cX8_readsNumber 94 = .ok (.getfield 242, 3) := by decide +kernel
theorem dX8_readsNumber_97 : decode cX8_readsNumber 97 = .ok (.iload_n 2, 1) := by decide +kernel
theorem dX8_readsNumber_98 : decode cX8_readsNumber 98 = .ok (.if_icmp .le 7, 3) := by decide +kernel
theorem dX8_readsNumber_101 : decode cX8_readsNumber 101 = .ok (.iconst 1, 1) := by decide +kernel
theorem dX8_readsNumber_102 : decode cX8_readsNumber 102 = .ok (.goto 4, 3) := by decide +kernel
theorem dX8_readsNumber_105 : decode cX8_readsNumber 105 = .ok (.iconst 0, 1) := by decide +kernel
theorem dX8_readsNumber_106 : decode cX8_readsNumber 106 = .ok (.ireturn, 1) := by decide +kernel
theorem dX8_readsCommand_0 : decode cX8_readsCommand 0 = .ok (.aload_n 0, 1) := by decide +kernel
theorem dX8_readsCommand_1 : decode cX8_readsCommand 1 = .ok (.aload_n 0, 1) := by decide +kernel
theorem dX8_readsCommand_2 : decode cX8_readsCommand 2 = .ok (.invokevirtual 255, 3) := by decide +kernel
theorem dX8_readsCommand_5 : decode cX8_readsCommand 5 = .ok (.putfield 258, 3) := by decide +kernel
theorem dX8_readsCommand_8 : decode cX8_readsCommand 8 = .ok (.aload_n 0, 1) := by decide +kernel
theorem dX8_readsCommand_9 : decode cX8_readsCommand 9 = .ok (.getfield 258, 3) := by decide +kernel
theorem dX8_readsCommand_12 : decode cX8_readsCommand 12 = .ok (.iconst (-1), 1) := by decide +kernel
theorem dX8_readsCommand_13 : decode cX8_readsCommand 13 = .ok (.if_icmp .ne 5, 3) := by decide +kernel
theorem dX8_readsCommand_16 : decode cX8_readsCommand 16 = .ok (.iconst 0, 1) := by decide +kernel
theorem dX8_readsCommand_17 : decode cX8_readsCommand 17 = .ok (.ireturn, 1) := by decide +kernel
theorem dX8_readsCommand_18 : decode cX8_readsCommand 18 = .ok (.aload_n 0, 1) := by decide +kernel
theorem dX8_readsCommand_19 : decode cX8_readsCommand 19 = .ok (.getfield 258, 3) := by decide +kernel
theorem dX8_readsCommand_22 : decode cX8_readsCommand 22 = .ok (.ifCond .ne 7, 3) := by decide +kernel
theorem dX8_readsCommand_25 : decode cX8_readsCommand 25 = .ok (.iconst 4, 1) := by decide +kernel
theorem dX8_readsCommand_26 : decode cX8_readsCommand 26 = .ok (.goto 16, 3) := by decide +kernel
theorem dX8_readsCommand_29 : decode cX8_readsCommand 29 = .ok (.aload_n 0, 1) := by decide +kernel
theorem dX8_readsCommand_30 : decode cX8_readsCommand 30 = .ok (.getfield 258, 3) := by decide +kernel
theorem dX8_readsCommand_33 : decode cX8_readsCommand 33 = .ok (.iconst 5, 1) := by decide +kernel
theorem dX8_readsCommand_34 : decode cX8_readsCommand 34 = .ok (.if_icmp .ne 7, 3) := by decide +kernel
theorem dX8_readsCommand_37 : decode cX8_readsCommand 37 = .ok (.iconst 1, 1) := by decide +kernel
theorem dX8_readsCommand_38 : decode cX8_readsCommand 38 = .ok (.goto 4, 3) := by decide +kernel
theorem dX8_readsCommand_41 : decode cX8_readsCommand 41 = .ok (.iconst 2, 1) := by decide +kernel
theorem dX8_readsCommand_42 : decode cX8_readsCommand 42 = .ok (.istore_n 1, 1) := by decide +kernel
theorem dX8_readsCommand_43 : decode cX8_readsCommand 43 = .ok (.iconst 1, 1) := by decide +kernel
theorem dX8_readsCommand_44 : decode cX8_readsCommand 44 = .ok (.istore_n 2, 1) := by decide +kernel
theorem dX8_readsCommand_45 : decode cX8_readsCommand 45 = .ok (.iconst 0, 1) := by decide +kernel
theorem dX8_readsCommand_46 : decode cX8_readsCommand 46 = .ok (.istore_n 3, 1) := by decide +kernel
theorem dX8_readsCommand_47 : decode cX8_readsCommand 47 = .ok (.iload_n 3, 1) := by decide +kernel
theorem dX8_readsCommand_48 : decode cX8_readsCommand 48 = .ok (.iload_n 1, 1) := by decide +kernel
theorem dX8_readsCommand_49 : decode cX8_readsCommand 49 = .ok (.if_icmp .ge 19, 3) := by decide +kernel
theorem dX8_readsCommand_52 : decode cX8_readsCommand 52 = .ok (.iload_n 2, 1) := by decide +kernel
theorem dX8_readsCommand_53 : decode cX8_readsCommand 53 = .ok (.ifCond .eq 15, 3) := by decide +kernel
theorem dX8_readsCommand_56 : decode cX8_readsCommand 56 = .ok (.aload_n 0, 1) := by decide +kernel
theorem dX8_readsCommand_57 : decode cX8_readsCommand 57 = .ok (.iload_n 3, 1) := by decide +kernel
theorem dX8_readsCommand_58 : decode cX8_readsCommand 58 = .ok (.invokevirtual 261, 3) := by decide +kernel
theorem dX8_readsCommand_61 : decode cX8_readsCommand 61 = .ok (.istore_n 2, 1) := by decide +kernel
theorem dX8_readsCommand_62 : decode cX8_readsCommand 62 = .ok (.iinc 3 1, 3) := by decide +kernel
theorem dX8_readsCommand_65 : decode cX8_readsCommand 65 = .ok (.goto (-18), 3) := by decide +kernel
theorem dX8_readsCommand_68 : decode cX8_readsCommand 68 = .ok (.iload_n 2, 1) := by decide +kernel
theorem dX8_readsCommand_69 : decode cX8_readsCommand 69 = .ok (.ireturn, 1) := by decide +kernel
theorem dX8_does_0 : decode cX8_does 0 = .ok (.aload_n 0, 1) := by decide +kernel
theorem dX8_does_1 : decode cX8_does 1 = .ok (.getfield 258, 3) := by decide +kernel
theorem dX8_does_4 : decode cX8_does 4 = .ok (.tableswitch 129 0 4 #[36, 65, 82, 82, 112], 36) := by decide +kernel
theorem dX8_does_40 : decode cX8_does 40 = .ok (.aload_n 0, 1) := by decide +kernel
theorem dX8_does_41 : decode cX8_does 41 = .ok (.aload_n 0, 1) := by decide +kernel
theorem dX8_does_42 : decode cX8_does 42 = .ok (.getfield 49, 3) := by decide +kernel
theorem dX8_does_45 : decode cX8_does 45 = .ok (.iconst 0, 1) := by decide +kernel
theorem dX8_does_46 : decode cX8_does 46 = .ok (.iaload, 1) := by decide +kernel
theorem dX8_does_47 : decode cX8_does 47 = .ok (.aload_n 0, 1) := by decide +kernel
theorem dX8_does_48 : decode cX8_does 48 = .ok (.getfield 49, 3) := by decide +kernel
theorem dX8_does_51 : decode cX8_does 51 = .ok (.iconst 1, 1) := by decide +kernel
theorem dX8_does_52 : decode cX8_does 52 = .ok (.iaload, 1) := by decide +kernel
theorem dX8_does_53 : decode cX8_does 53 = .ok (.aload_n 0, 1) := by decide +kernel
theorem dX8_does_54 : decode cX8_does 54 = .ok (.getfield 49, 3) := by decide +kernel
theorem dX8_does_57 : decode cX8_does 57 = .ok (.iconst 2, 1) := by decide +kernel
theorem dX8_does_58 : decode cX8_does 58 = .ok (.iaload, 1) := by decide +kernel
theorem dX8_does_59 : decode cX8_does 59 = .ok (.aload_n 0, 1) := by decide +kernel
theorem dX8_does_60 : decode cX8_does 60 = .ok (.getfield 49, 3) := by decide +kernel
theorem dX8_does_63 : decode cX8_does 63 = .ok (.iconst 3, 1) := by decide +kernel
theorem dX8_does_64 : decode cX8_does 64 = .ok (.iaload, 1) := by decide +kernel
theorem dX8_does_65 : decode cX8_does 65 = .ok (.invokevirtual 117, 3) := by decide +kernel
theorem dX8_does_68 : decode cX8_does 68 = .ok (.ireturn, 1) := by decide +kernel
theorem dX8_does_69 : decode cX8_does 69 = .ok (.aload_n 0, 1) := by decide +kernel
theorem dX8_does_70 : decode cX8_does 70 = .ok (.aload_n 0, 1) := by decide +kernel
theorem dX8_does_71 : decode cX8_does 71 = .ok (.getfield 49, 3) := by decide +kernel
theorem dX8_does_74 : decode cX8_does 74 = .ok (.iconst 0, 1) := by decide +kernel
theorem dX8_does_75 : decode cX8_does 75 = .ok (.iaload, 1) := by decide +kernel
theorem dX8_does_76 : decode cX8_does 76 = .ok (.aload_n 0, 1) := by decide +kernel
theorem dX8_does_77 : decode cX8_does 77 = .ok (.getfield 49, 3) := by decide +kernel
theorem dX8_does_80 : decode cX8_does 80 = .ok (.iconst 1, 1) := by decide +kernel
theorem dX8_does_81 : decode cX8_does 81 = .ok (.iaload, 1) := by decide +kernel
theorem dX8_does_82 : decode cX8_does 82 = .ok (.invokevirtual 136, 3) := by decide +kernel
theorem dX8_does_85 : decode cX8_does 85 = .ok (.ireturn, 1) := by decide +kernel
theorem dX8_does_86 : decode cX8_does 86 = .ok (.aload_n 0, 1) := by decide +kernel
theorem dX8_does_87 : decode cX8_does 87 = .ok (.aload_n 0, 1) := by decide +kernel
theorem dX8_does_88 : decode cX8_does 88 = .ok (.getfield 49, 3) := by decide +kernel
theorem dX8_does_91 : decode cX8_does 91 = .ok (.iconst 0, 1) := by decide +kernel
theorem dX8_does_92 : decode cX8_does 92 = .ok (.iaload, 1) := by decide +kernel
theorem dX8_does_93 : decode cX8_does 93 = .ok (.aload_n 0, 1) := by decide +kernel
theorem dX8_does_94 : decode cX8_does 94 = .ok (.getfield 49, 3) := by decide +kernel
theorem dX8_does_97 : decode cX8_does 97 = .ok (.iconst 1, 1) := by decide +kernel
theorem dX8_does_98 : decode cX8_does 98 = .ok (.iaload, 1) := by decide +kernel
theorem dX8_does_99 : decode cX8_does 99 = .ok (.aload_n 0, 1) := by decide +kernel
theorem dX8_does_100 : decode cX8_does 100 = .ok (.getfield 258, 3) := by decide +kernel
theorem dX8_does_103 : decode cX8_does 103 = .ok (.iconst 2, 1) := by decide +kernel
theorem dX8_does_104 : decode cX8_does 104 = .ok (.if_icmp .ne 7, 3) := by decide +kernel
theorem dX8_does_107 : decode cX8_does 107 = .ok (.iconst 1, 1) := by decide +kernel
theorem dX8_does_108 : decode cX8_does 108 = .ok (.goto 4, 3) := by decide +kernel
theorem dX8_does_111 : decode cX8_does 111 = .ok (.iconst 0, 1) := by decide +kernel
theorem dX8_does_112 : decode cX8_does 112 = .ok (.invokevirtual 146, 3) := by decide +kernel
theorem dX8_does_115 : decode cX8_does 115 = .ok (.ireturn, 1) := by decide +kernel
theorem dX8_does_116 : decode cX8_does 116 = .ok (.aload_n 0, 1) := by decide +kernel
theorem dX8_does_117 : decode cX8_does 117 = .ok (.aload_n 0, 1) := by decide +kernel
theorem dX8_does_118 : decode cX8_does 118 = .ok (.getfield 49, 3) := by decide +kernel
theorem dX8_does_121 : decode cX8_does 121 = .ok (.iconst 0, 1) := by decide +kernel
theorem dX8_does_122 : decode cX8_does 122 = .ok (.iaload, 1) := by decide +kernel
theorem dX8_does_123 : decode cX8_does 123 = .ok (.aload_n 0, 1) := by decide +kernel
theorem dX8_does_124 : decode cX8_does 124 = .ok (.getfield 49, 3) := by decide +kernel
theorem dX8_does_127 : decode cX8_does 127 = .ok (.iconst 1, 1) := by decide +kernel
theorem dX8_does_128 : decode cX8_does 128 = .ok (.iaload, 1) := by decide +kernel
theorem dX8_does_129 : decode cX8_does 129 = .ok (.invokevirtual 193, 3) := by decide +kernel
theorem dX8_does_132 : decode cX8_does 132 = .ok (.ireturn, 1) := by decide +kernel
theorem dX8_does_133 : decode cX8_does 133 = .ok (.aload_n 0, 1) := by decide +kernel
theorem dX8_does_134 : decode cX8_does 134 = .ok (.iconst 0, 1) := by decide +kernel
theorem dX8_does_135 : decode cX8_does 135 = .ok (.aload_n 0, 1) := by decide +kernel
theorem dX8_does_136 : decode cX8_does 136 = .ok (.getfield 49, 3) := by decide +kernel
theorem dX8_does_139 : decode cX8_does 139 = .ok (.iconst 0, 1) := by decide +kernel
theorem dX8_does_140 : decode cX8_does 140 = .ok (.iaload, 1) := by decide +kernel
theorem dX8_does_141 : decode cX8_does 141 = .ok (.invokevirtual 101, 3) := by decide +kernel
theorem dX8_does_144 : decode cX8_does 144 = .ok (.ireturn, 1) := by decide +kernel
theorem dX8_eatsEnd_0 : decode cX8_eatsEnd 0 = .ok (.aload_n 0, 1) := by decide +kernel
theorem dX8_eatsEnd_1 : decode cX8_eatsEnd 1 = .ok (.invokevirtual 252, 3) := by decide +kernel
theorem dX8_eatsEnd_4 : decode cX8_eatsEnd 4 = .ok (.bipush 59, 2) := by decide +kernel
theorem dX8_eatsEnd_6 : decode cX8_eatsEnd 6 = .ok (.if_icmp .ne 18, 3) := by decide +kernel
theorem dX8_eatsEnd_9 : decode cX8_eatsEnd 9 = .ok (.aload_n 0, 1) := by decide +kernel
theorem dX8_eatsEnd_10 : decode cX8_eatsEnd 10 = .ok (.getfield 242, 3) := by decide +kernel
theorem dX8_eatsEnd_13 : decode cX8_eatsEnd 13 = .ok (.aload_n 0, 1) := by decide +kernel
theorem dX8_eatsEnd_14 : decode cX8_eatsEnd 14 = .ok (.getfield 239, 3) := by decide +kernel
theorem dX8_eatsEnd_17 : decode cX8_eatsEnd 17 = .ok (.if_icmp .ge 7, 3) := by decide +kernel
theorem dX8_eatsEnd_20 : decode cX8_eatsEnd 20 = .ok (.iconst 1, 1) := by decide +kernel
theorem dX8_eatsEnd_21 : decode cX8_eatsEnd 21 = .ok (.goto 4, 3) := by decide +kernel
theorem dX8_eatsEnd_24 : decode cX8_eatsEnd 24 = .ok (.iconst 0, 1) := by decide +kernel
theorem dX8_eatsEnd_25 : decode cX8_eatsEnd 25 = .ok (.istore_n 1, 1) := by decide +kernel
theorem dX8_eatsEnd_26 : decode cX8_eatsEnd 26 = .ok (.aload_n 0, 1) := by decide +kernel
theorem dX8_eatsEnd_27 : decode cX8_eatsEnd 27 = .ok (.dup, 1) := by decide +kernel
theorem dX8_eatsEnd_28 : decode cX8_eatsEnd 28 = .ok (.getfield 242, 3) := by decide +kernel
theorem dX8_eatsEnd_31 : decode cX8_eatsEnd 31 = .ok (.iload_n 1, 1) := by decide +kernel
theorem dX8_eatsEnd_32 : decode cX8_eatsEnd 32 = .ok (.ifCond .eq 7, 3) := by decide +kernel
theorem dX8_eatsEnd_35 : decode cX8_eatsEnd 35 = .ok (.iconst 1, 1) := by decide +kernel
theorem dX8_eatsEnd_36 : decode cX8_eatsEnd 36 = .ok (.goto 4, 3) := by decide +kernel
theorem dX8_eatsEnd_39 : decode cX8_eatsEnd 39 = .ok (.iconst 0, 1) := by decide +kernel
theorem dX8_eatsEnd_40 : decode cX8_eatsEnd 40 = .ok (.iadd, 1) := by decide +kernel
theorem dX8_eatsEnd_41 : decode cX8_eatsEnd 41 = .ok (.putfield 242, 3) := by decide +kernel
theorem dX8_eatsEnd_44 : decode cX8_eatsEnd 44 = .ok (.iload_n 1, 1) := by decide +kernel
theorem dX8_eatsEnd_45 : decode cX8_eatsEnd 45 = .ok (.ireturn, 1) := by decide +kernel
theorem dX8_read_0 : decode cX8_read 0 = .ok (.aload_n 0, 1) := by decide +kernel
theorem dX8_read_1 : decode cX8_read 1 = .ok (.iconst 0, 1) := by decide +kernel
theorem dX8_read_2 : decode cX8_read 2 = .ok (.putfield 242, 3) := by decide +kernel
theorem dX8_read_5 : decode cX8_read 5 = .ok (.aload_n 0, 1) := by decide +kernel
theorem dX8_read_6 : decode cX8_read 6 = .ok (.invokevirtual 264, 3) := by decide +kernel
theorem dX8_read_9 : decode cX8_read 9 = .ok (.istore_n 1, 1) := by decide +kernel
theorem dX8_read_10 : decode cX8_read 10 = .ok (.iload_n 1, 1) := by decide +kernel
theorem dX8_read_11 : decode cX8_read 11 = .ok (.ifCond .eq 18, 3) := by decide +kernel
theorem dX8_read_14 : decode cX8_read 14 = .ok (.aload_n 0, 1) := by decide +kernel
theorem dX8_read_15 : decode cX8_read 15 = .ok (.invokevirtual 268, 3) := by decide +kernel
theorem dX8_read_18 : decode cX8_read 18 = .ok (.ifCond .eq 11, 3) := by decide +kernel
theorem dX8_read_21 : decode cX8_read 21 = .ok (.aload_n 0, 1) := by decide +kernel
theorem dX8_read_22 : decode cX8_read 22 = .ok (.invokevirtual 264, 3) := by decide +kernel
theorem dX8_read_25 : decode cX8_read 25 = .ok (.istore_n 1, 1) := by decide +kernel
theorem dX8_read_26 : decode cX8_read 26 = .ok (.goto (-16), 3) := by decide +kernel
theorem dX8_read_29 : decode cX8_read 29 = .ok (.aload_n 0, 1) := by decide +kernel
theorem dX8_read_30 : decode cX8_read 30 = .ok (.getfield 242, 3) := by decide +kernel
theorem dX8_read_33 : decode cX8_read 33 = .ok (.istore_n 2, 1) := by decide +kernel
theorem dX8_read_34 : decode cX8_read 34 = .ok (.iload_n 1, 1) := by decide +kernel
theorem dX8_read_35 : decode cX8_read 35 = .ok (.ifCond .eq 14, 3) := by decide +kernel
theorem dX8_read_38 : decode cX8_read 38 = .ok (.aload_n 0, 1) := by decide +kernel
theorem dX8_read_39 : decode cX8_read 39 = .ok (.getfield 242, 3) := by decide +kernel
theorem dX8_read_42 : decode cX8_read 42 = .ok (.aload_n 0, 1) := by decide +kernel
theorem dX8_read_43 : decode cX8_read 43 = .ok (.getfield 239, 3) := by decide +kernel
theorem dX8_read_46 : decode cX8_read 46 = .ok (.if_icmp .ge 17, 3) := by decide +kernel
theorem dX8_read_49 : decode cX8_read 49 = .ok (.aload_n 0, 1) := by decide +kernel
theorem dX8_read_50 : decode cX8_read 50 = .ok (.iconst 0, 1) := by decide +kernel
theorem dX8_read_51 : decode cX8_read 51 = .ok (.putfield 239, 3) := by decide +kernel
theorem dX8_read_54 : decode cX8_read 54 = .ok (.aload_n 0, 1) := by decide +kernel
theorem dX8_read_55 : decode cX8_read 55 = .ok (.bipush (-100), 2) := by decide +kernel
theorem dX8_read_57 : decode cX8_read 57 = .ok (.iload_n 2, 1) := by decide +kernel
theorem dX8_read_58 : decode cX8_read 58 = .ok (.isub, 1) := by decide +kernel
theorem dX8_read_59 : decode cX8_read 59 = .ok (.invokevirtual 91, 3) := by decide +kernel
theorem dX8_read_62 : decode cX8_read 62 = .ok (.ireturn, 1) := by decide +kernel
theorem dX8_read_63 : decode cX8_read 63 = .ok (.aload_n 0, 1) := by decide +kernel
theorem dX8_read_64 : decode cX8_read 64 = .ok (.invokevirtual 84, 3) := by decide +kernel
theorem dX8_read_67 : decode cX8_read 67 = .ok (.aload_n 0, 1) := by decide +kernel
theorem dX8_read_68 : decode cX8_read 68 = .ok (.iconst 0, 1) := by decide +kernel
theorem dX8_read_69 : decode cX8_read 69 = .ok (.putfield 242, 3) := by decide +kernel
theorem dX8_read_72 : decode cX8_read 72 = .ok (.iconst 0, 1) := by decide +kernel
theorem dX8_read_73 : decode cX8_read 73 = .ok (.istore_n 3, 1) := by decide +kernel
theorem dX8_read_74 : decode cX8_read 74 = .ok (.iconst 1, 1) := by decide +kernel
theorem dX8_read_75 : decode cX8_read 75 = .ok (.istore 4, 2) := by decide +kernel
theorem dX8_read_77 : decode cX8_read 77 = .ok (.iload 4, 2) := by decide +kernel
theorem dX8_read_79 : decode cX8_read 79 = .ok (.ifCond .eq 48, 3) := by decide +kernel
theorem dX8_read_82 : decode cX8_read 82 = .ok (.aload_n 0, 1) := by decide +kernel
theorem dX8_read_83 : decode cX8_read 83 = .ok (.invokevirtual 264, 3) := by decide +kernel
theorem dX8_read_86 : decode cX8_read 86 = .ok (.istore_n 1, 1) := by decide +kernel
theorem dX8_read_87 : decode cX8_read 87 = .ok (.aload_n 0, 1) := by decide +kernel
theorem dX8_read_88 : decode cX8_read 88 = .ok (.invokevirtual 271, 3) := by decide +kernel
theorem dX8_read_91 : decode cX8_read 91 = .ok (.istore 5, 2) := by decide +kernel
theorem dX8_read_93 : decode cX8_read 93 = .ok (.aload_n 0, 1) := by decide +kernel
theorem dX8_read_94 : decode cX8_read 94 = .ok (.getfield 70, 3) := by decide +kernel
theorem dX8_read_97 : decode cX8_read 97 = .ok (.ifCond .eq 18, 3) := by decide +kernel
theorem dX8_read_100 : decode cX8_read 100 = .ok (.aload_n 0, 1) := by decide +kernel
theorem dX8_read_101 : decode cX8_read 101 = .ok (.invokevirtual 217, 3) := by decide +kernel
theorem dX8_read_104 : decode cX8_read 104 = .ok (.aload_n 0, 1) := by decide +kernel
theorem dX8_read_105 : decode cX8_read 105 = .ok (.iconst 0, 1) := by decide +kernel
theorem dX8_read_106 : decode cX8_read 106 = .ok (.putfield 239, 3) := by decide +kernel
theorem dX8_read_109 : decode cX8_read 109 = .ok (.aload_n 0, 1) := by decide +kernel
theorem dX8_read_110 : decode cX8_read 110 = .ok (.iconst 1, 1) := by decide +kernel
theorem dX8_read_111 : decode cX8_read 111 = .ok (.invokevirtual 87, 3) := by decide +kernel
theorem dX8_read_114 : decode cX8_read 114 = .ok (.ireturn, 1) := by decide +kernel
theorem dX8_read_115 : decode cX8_read 115 = .ok (.iinc 3 1, 3) := by decide +kernel
theorem dX8_read_118 : decode cX8_read 118 = .ok (.aload_n 0, 1) := by decide +kernel
theorem dX8_read_119 : decode cX8_read 119 = .ok (.invokevirtual 268, 3) := by decide +kernel
theorem dX8_read_122 : decode cX8_read 122 = .ok (.istore 4, 2) := by decide +kernel
theorem dX8_read_124 : decode cX8_read 124 = .ok (.goto (-47), 3) := by decide +kernel
theorem dX8_read_127 : decode cX8_read 127 = .ok (.aload_n 0, 1) := by decide +kernel
theorem dX8_read_128 : decode cX8_read 128 = .ok (.iconst 0, 1) := by decide +kernel
theorem dX8_read_129 : decode cX8_read 129 = .ok (.putfield 239, 3) := by decide +kernel
theorem dX8_read_132 : decode cX8_read 132 = .ok (.aload_n 0, 1) := by decide +kernel
theorem dX8_read_133 : decode cX8_read 133 = .ok (.aload_n 0, 1) := by decide +kernel
theorem dX8_read_134 : decode cX8_read 134 = .ok (.iload_n 3, 1) := by decide +kernel
theorem dX8_read_135 : decode cX8_read 135 = .ok (.invokevirtual 91, 3) := by decide +kernel
theorem dX8_read_138 : decode cX8_read 138 = .ok (.invokevirtual 94, 3) := by decide +kernel
theorem dX8_read_141 : decode cX8_read 141 = .ok (.ireturn, 1) := by decide +kernel
theorem dX8_undo_0 : decode cX8_undo 0 = .ok (.aload_n 0, 1) := by decide +kernel
theorem dX8_undo_1 : decode cX8_undo 1 = .ok (.getfield 78, 3) := by decide +kernel
theorem dX8_undo_4 : decode cX8_undo 4 = .ok (.ifCond .ne 9, 3) := by decide +kernel
theorem dX8_undo_7 : decode cX8_undo 7 = .ok (.aload_n 0, 1) := by decide +kernel
theorem dX8_undo_8 : decode cX8_undo 8 = .ok (.iconst 1, 1) := by decide +kernel
theorem dX8_undo_9 : decode cX8_undo 9 = .ok (.invokevirtual 87, 3) := by decide +kernel
theorem dX8_undo_12 : decode cX8_undo 12 = .ok (.ireturn, 1) := by decide +kernel
theorem dX8_undo_13 : decode cX8_undo 13 = .ok (.aload_n 0, 1) := by decide +kernel
theorem dX8_undo_14 : decode cX8_undo 14 = .ok (.dup, 1) := by decide +kernel
theorem dX8_undo_15 : decode cX8_undo 15 = .ok (.getfield 78, 3) := by decide +kernel
theorem dX8_undo_18 : decode cX8_undo 18 = .ok (.iconst 1, 1) := by decide +kernel
theorem dX8_undo_19 : decode cX8_undo 19 = .ok (.isub, 1) := by decide +kernel
theorem dX8_undo_20 : decode cX8_undo 20 = .ok (.putfield 78, 3) := by decide +kernel
theorem dX8_undo_23 : decode cX8_undo 23 = .ok (.iconst 0, 1) := by decide +kernel
theorem dX8_undo_24 : decode cX8_undo 24 = .ok (.istore_n 1, 1) := by decide +kernel
theorem dX8_undo_25 : decode cX8_undo 25 = .ok (.iload_n 1, 1) := by decide +kernel
theorem dX8_undo_26 : decode cX8_undo 26 = .ok (.bipush 113, 2) := by decide +kernel
theorem dX8_undo_28 : decode cX8_undo 28 = .ok (.if_icmp .ge 29, 3) := by decide +kernel
theorem dX8_undo_31 : decode cX8_undo 31 = .ok (.aload_n 0, 1) := by decide +kernel
theorem dX8_undo_32 : decode cX8_undo 32 = .ok (.getfield 7, 3) := by decide +kernel
theorem dX8_undo_35 : decode cX8_undo 35 = .ok (.iload_n 1, 1) := by decide +kernel
theorem dX8_undo_36 : decode cX8_undo 36 = .ok (.aload_n 0, 1) := by decide +kernel
theorem dX8_undo_37 : decode cX8_undo 37 = .ok (.getfield 16, 3) := by decide +kernel
theorem dX8_undo_40 : decode cX8_undo 40 = .ok (.bipush 113, 2) := by decide +kernel
theorem dX8_undo_42 : decode cX8_undo 42 = .ok (.aload_n 0, 1) := by decide +kernel
theorem dX8_undo_43 : decode cX8_undo 43 = .ok (.getfield 78, 3) := by decide +kernel
theorem dX8_undo_46 : decode cX8_undo 46 = .ok (.imul, 1) := by decide +kernel
theorem dX8_undo_47 : decode cX8_undo 47 = .ok (.iload_n 1, 1) := by decide +kernel
theorem dX8_undo_48 : decode cX8_undo 48 = .ok (.iadd, 1) := by decide +kernel
theorem dX8_undo_49 : decode cX8_undo 49 = .ok (.iaload, 1) := by decide +kernel
theorem dX8_undo_50 : decode cX8_undo 50 = .ok (.iastore, 1) := by decide +kernel
theorem dX8_undo_51 : decode cX8_undo 51 = .ok (.iinc 1 1, 3) := by decide +kernel
theorem dX8_undo_54 : decode cX8_undo 54 = .ok (.goto (-29), 3) := by decide +kernel
theorem dX8_undo_57 : decode cX8_undo 57 = .ok (.aload_n 0, 1) := by decide +kernel
theorem dX8_undo_58 : decode cX8_undo 58 = .ok (.aload_n 0, 1) := by decide +kernel
theorem dX8_undo_59 : decode cX8_undo 59 = .ok (.getfield 78, 3) := by decide +kernel
theorem dX8_undo_62 : decode cX8_undo 62 = .ok (.invokevirtual 91, 3) := by decide +kernel
theorem dX8_undo_65 : decode cX8_undo 65 = .ok (.ireturn, 1) := by decide +kernel
theorem dX8_save_0 : decode cX8_save 0 = .ok (.aload_n 0, 1) := by decide +kernel
theorem dX8_save_1 : decode cX8_save 1 = .ok (.iconst 1, 1) := by decide +kernel
theorem dX8_save_2 : decode cX8_save 2 = .ok (.putfield 274, 3) := by decide +kernel
theorem dX8_save_5 : decode cX8_save 5 = .ok (.iconst 0, 1) := by decide +kernel
theorem dX8_save_6 : decode cX8_save 6 = .ok (.istore_n 1, 1) := by decide +kernel
theorem dX8_save_7 : decode cX8_save 7 = .ok (.iload_n 1, 1) := by decide +kernel
theorem dX8_save_8 : decode cX8_save 8 = .ok (.bipush 113, 2) := by decide +kernel
theorem dX8_save_10 : decode cX8_save 10 = .ok (.if_icmp .ge 21, 3) := by decide +kernel
theorem dX8_save_13 : decode cX8_save 13 = .ok (.aload_n 0, 1) := by decide +kernel
theorem dX8_save_14 : decode cX8_save 14 = .ok (.getfield 19, 3) := by decide +kernel
theorem dX8_save_17 : decode cX8_save 17 = .ok (.iload_n 1, 1) := by decide +kernel
theorem dX8_save_18 : decode cX8_save 18 = .ok (.aload_n 0, 1) := by decide +kernel
theorem dX8_save_19 : decode cX8_save 19 = .ok (.getfield 7, 3) := by decide +kernel
theorem dX8_save_22 : decode cX8_save 22 = .ok (.iload_n 1, 1) := by decide +kernel
theorem dX8_save_23 : decode cX8_save 23 = .ok (.iaload, 1) := by decide +kernel
theorem dX8_save_24 : decode cX8_save 24 = .ok (.iastore, 1) := by decide +kernel
theorem dX8_save_25 : decode cX8_save 25 = .ok (.iinc 1 1, 3) := by decide +kernel
theorem dX8_save_28 : decode cX8_save 28 = .ok (.goto (-21), 3) := by decide +kernel
theorem dX8_save_31 : decode cX8_save 31 = .ok (.aload_n 0, 1) := by decide +kernel
theorem dX8_save_32 : decode cX8_save 32 = .ok (.aload_n 0, 1) := by decide +kernel
theorem dX8_save_33 : decode cX8_save 33 = .ok (.getfield 7, 3) := by decide +kernel
theorem dX8_save_36 : decode cX8_save 36 = .ok (.bipush 16, 2) := by decide +kernel
theorem dX8_save_38 : decode cX8_save 38 = .ok (.iaload, 1) := by decide +kernel
theorem dX8_save_39 : decode cX8_save 39 = .ok (.invokevirtual 91, 3) := by decide +kernel
theorem dX8_save_42 : decode cX8_save 42 = .ok (.ireturn, 1) := by decide +kernel
theorem dX8_restore_0 : decode cX8_restore 0 = .ok (.aload_n 0, 1) := by decide +kernel
theorem dX8_restore_1 : decode cX8_restore 1 = .ok (.getfield 274, 3) := by decide +kernel
theorem dX8_restore_4 : decode cX8_restore 4 = .ok (.ifCond .ne 9, 3) := by decide +kernel
theorem dX8_restore_7 : decode cX8_restore 7 = .ok (.aload_n 0, 1) := by decide +kernel
theorem dX8_restore_8 : decode cX8_restore 8 = .ok (.iconst 1, 1) := by decide +kernel
theorem dX8_restore_9 : decode cX8_restore 9 = .ok (.invokevirtual 87, 3) := by decide +kernel
theorem dX8_restore_12 : decode cX8_restore 12 = .ok (.ireturn, 1) := by decide +kernel
theorem dX8_restore_13 : decode cX8_restore 13 = .ok (.iconst 0, 1) := by decide +kernel
theorem dX8_restore_14 : decode cX8_restore 14 = .ok (.istore_n 1, 1) := by decide +kernel
theorem dX8_restore_15 : decode cX8_restore 15 = .ok (.iload_n 1, 1) := by decide +kernel
theorem dX8_restore_16 : decode cX8_restore 16 = .ok (.bipush 113, 2) := by decide +kernel
theorem dX8_restore_18 : decode cX8_restore 18 = .ok (.if_icmp .ge 21, 3) := by decide +kernel
theorem dX8_restore_21 : decode cX8_restore 21 = .ok (.aload_n 0, 1) := by decide +kernel
theorem dX8_restore_22 : decode cX8_restore 22 = .ok (.getfield 7, 3) := by decide +kernel
theorem dX8_restore_25 : decode cX8_restore 25 = .ok (.iload_n 1, 1) := by decide +kernel
theorem dX8_restore_26 : decode cX8_restore 26 = .ok (.aload_n 0, 1) := by decide +kernel
theorem dX8_restore_27 : decode cX8_restore 27 = .ok (.getfield 19, 3) := by decide +kernel
theorem dX8_restore_30 : decode cX8_restore 30 = .ok (.iload_n 1, 1) := by decide +kernel
theorem dX8_restore_31 : decode cX8_restore 31 = .ok (.iaload, 1) := by decide +kernel
theorem dX8_restore_32 : decode cX8_restore 32 = .ok (.iastore, 1) := by decide +kernel
theorem dX8_restore_33 : decode cX8_restore 33 = .ok (.iinc 1 1, 3) := by decide +kernel
theorem dX8_restore_36 : decode cX8_restore 36 = .ok (.goto (-21), 3) := by decide +kernel
theorem dX8_restore_39 : decode cX8_restore 39 = .ok (.aload_n 0, 1) := by decide +kernel
theorem dX8_restore_40 : decode cX8_restore 40 = .ok (.iconst 0, 1) := by decide +kernel
theorem dX8_restore_41 : decode cX8_restore 41 = .ok (.putfield 78, 3) := by decide +kernel
theorem dX8_restore_44 : decode cX8_restore 44 = .ok (.aload_n 0, 1) := by decide +kernel
theorem dX8_restore_45 : decode cX8_restore 45 = .ok (.aload_n 0, 1) := by decide +kernel
theorem dX8_restore_46 : decode cX8_restore 46 = .ok (.getfield 7, 3) := by decide +kernel
theorem dX8_restore_49 : decode cX8_restore 49 = .ok (.bipush 16, 2) := by decide +kernel
theorem dX8_restore_51 : decode cX8_restore 51 = .ok (.iaload, 1) := by decide +kernel
theorem dX8_restore_52 : decode cX8_restore 52 = .ok (.invokevirtual 91, 3) := by decide +kernel
theorem dX8_restore_55 : decode cX8_restore 55 = .ok (.ireturn, 1) := by decide +kernel
