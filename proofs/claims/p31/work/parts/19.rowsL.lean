theorem dL_slot_0 : decode cL_slot 0 = .ok (.bipush 6, 2) := by decide +kernel
theorem dL_slot_2 : decode cL_slot 2 = .ok (.iload_n 1, 1) := by decide +kernel
theorem dL_slot_3 : decode cL_slot 3 = .ok (.imul, 1) := by decide +kernel
theorem dL_slot_4 : decode cL_slot 4 = .ok (.istore_n 3, 1) := by decide +kernel
theorem dL_slot_5 : decode cL_slot 5 = .ok (.iload_n 3, 1) := by decide +kernel
theorem dL_slot_6 : decode cL_slot 6 = .ok (.bipush 6, 2) := by decide +kernel
theorem dL_slot_8 : decode cL_slot 8 = .ok (.iload_n 1, 1) := by decide +kernel
theorem dL_slot_9 : decode cL_slot 9 = .ok (.imul, 1) := by decide +kernel
theorem dL_slot_10 : decode cL_slot 10 = .ok (.bipush 6, 2) := by decide +kernel
theorem dL_slot_12 : decode cL_slot 12 = .ok (.iadd, 1) := by decide +kernel
theorem dL_slot_13 : decode cL_slot 13 = .ok (.if_icmp .ge 20, 3) := by decide +kernel
theorem dL_slot_16 : decode cL_slot 16 = .ok (.aload_n 0, 1) := by decide +kernel
theorem dL_slot_17 : decode cL_slot 17 = .ok (.iload_n 3, 1) := by decide +kernel
theorem dL_slot_18 : decode cL_slot 18 = .ok (.iaload, 1) := by decide +kernel
theorem dL_slot_19 : decode cL_slot 19 = .ok (.iload_n 2, 1) := by decide +kernel
theorem dL_slot_20 : decode cL_slot 20 = .ok (.iconst 1, 1) := by decide +kernel
theorem dL_slot_21 : decode cL_slot 21 = .ok (.iadd, 1) := by decide +kernel
theorem dL_slot_22 : decode cL_slot 22 = .ok (.if_icmp .ne 5, 3) := by decide +kernel
theorem dL_slot_25 : decode cL_slot 25 = .ok (.iload_n 3, 1) := by decide +kernel
theorem dL_slot_26 : decode cL_slot 26 = .ok (.ireturn, 1) := by decide +kernel
theorem dL_slot_27 : decode cL_slot 27 = .ok (.iinc 3 1, 3) := by decide +kernel
theorem dL_slot_30 : decode cL_slot 30 = .ok (.goto (-25), 3) := by decide +kernel
theorem dL_slot_33 : decode cL_slot 33 = .ok (.iconst (-1), 1) := by decide +kernel
theorem dL_slot_34 : decode cL_slot 34 = .ok (.ireturn, 1) := by decide +kernel
set_option maxRecDepth 20000 in
theorem ggL_fetches_L_slot : GoodIn wsL_fetches wsL_slot := goodIn_r _ [4] (by decide +kernel) (by decide +kernel)
set_option maxRecDepth 20000 in
theorem gL_fetches_L_slot : GoodIn wsL_fetches (va_wsS RL 7 yL_slot wsL_slot) := goodIn_app (goodIn_of _ (by decide +kernel)) ggL_fetches_L_slot
theorem dL_fetches_0 : decode cL_fetches 0 = .ok (.aload_n 2, 1) := by decide +kernel
theorem dL_fetches_1 : decode cL_fetches 1 = .ok (.iload 7, 2) := by decide +kernel
theorem dL_fetches_3 : decode cL_fetches 3 = .ok (.iload 8, 2) := by decide +kernel
theorem dL_fetches_5 : decode cL_fetches 5 = .ok (.invokestatic 7, 3) := by decide +kernel
theorem dL_fetches_8 : decode cL_fetches 8 = .ok (.istore 9, 2) := by decide +kernel
theorem dL_fetches_10 : decode cL_fetches 10 = .ok (.bipush 6, 2) := by decide +kernel
theorem dL_fetches_12 : decode cL_fetches 12 = .ok (.iload 7, 2) := by decide +kernel
theorem dL_fetches_14 : decode cL_fetches 14 = .ok (.imul, 1) := by decide +kernel
theorem dL_fetches_15 : decode cL_fetches 15 = .ok (.istore 10, 2) := by decide +kernel
theorem dL_fetches_17 : decode cL_fetches 17 = .ok (.iload 10, 2) := by decide +kernel
theorem dL_fetches_19 : decode cL_fetches 19 = .ok (.bipush 6, 2) := by decide +kernel
theorem dL_fetches_21 : decode cL_fetches 21 = .ok (.iload 7, 2) := by decide +kernel
theorem dL_fetches_23 : decode cL_fetches 23 = .ok (.imul, 1) := by decide +kernel
theorem dL_fetches_24 : decode cL_fetches 24 = .ok (.bipush 6, 2) := by decide +kernel
theorem dL_fetches_26 : decode cL_fetches 26 = .ok (.iadd, 1) := by decide +kernel
theorem dL_fetches_27 : decode cL_fetches 27 = .ok (.if_icmp .ge 29, 3) := by decide +kernel
theorem dL_fetches_30 : decode cL_fetches 30 = .ok (.iload 9, 2) := by decide +kernel
theorem dL_fetches_32 : decode cL_fetches 32 = .ok (.ifCond .ge 24, 3) := by decide +kernel
theorem dL_fetches_35 : decode cL_fetches 35 = .ok (.aload_n 2, 1) := by decide +kernel
theorem dL_fetches_36 : decode cL_fetches 36 = .ok (.iload 10, 2) := by decide +kernel
theorem dL_fetches_38 : decode cL_fetches 38 = .ok (.iaload, 1) := by decide +kernel
theorem dL_fetches_39 : decode cL_fetches 39 = .ok (.ifCond .ne 8, 3) := by decide +kernel
theorem dL_fetches_42 : decode cL_fetches 42 = .ok (.iload 10, 2) := by decide +kernel
theorem dL_fetches_44 : decode cL_fetches 44 = .ok (.goto 4, 3) := by decide +kernel
theorem dL_fetches_47 : decode cL_fetches 47 = .ok (.iconst (-1), 1) := by decide +kernel
theorem dL_fetches_48 : decode cL_fetches 48 = .ok (.istore 9, 2) := by decide +kernel
theorem dL_fetches_50 : decode cL_fetches 50 = .ok (.iinc 10 1, 3) := by decide +kernel
theorem dL_fetches_53 : decode cL_fetches 53 = .ok (.goto (-36), 3) := by decide +kernel
theorem dL_fetches_56 : decode cL_fetches 56 = .ok (.iload 9, 2) := by decide +kernel
theorem dL_fetches_58 : decode cL_fetches 58 = .ok (.ifCond .ge 84, 3) := by decide +kernel
theorem dL_fetches_61 : decode cL_fetches 61 = .ok (.bipush 6, 2) := by decide +kernel
theorem dL_fetches_63 : decode cL_fetches 63 = .ok (.iload 7, 2) := by decide +kernel
theorem dL_fetches_65 : decode cL_fetches 65 = .ok (.imul, 1) := by decide +kernel
theorem dL_fetches_66 : decode cL_fetches 66 = .ok (.istore 9, 2) := by decide +kernel
theorem dL_fetches_68 : decode cL_fetches 68 = .ok (.bipush 6, 2) := by decide +kernel
theorem dL_fetches_70 : decode cL_fetches 70 = .ok (.iload 7, 2) := by decide +kernel
theorem dL_fetches_72 : decode cL_fetches 72 = .ok (.imul, 1) := by decide +kernel
theorem dL_fetches_73 : decode cL_fetches 73 = .ok (.iconst 1, 1) := by decide +kernel
theorem dL_fetches_74 : decode cL_fetches 74 = .ok (.iadd, 1) := by decide +kernel
theorem dL_fetches_75 : decode cL_fetches 75 = .ok (.istore 10, 2) := by decide +kernel
theorem dL_fetches_77 : decode cL_fetches 77 = .ok (.iload 10, 2) := by decide +kernel
theorem dL_fetches_79 : decode cL_fetches 79 = .ok (.bipush 6, 2) := by decide +kernel
theorem dL_fetches_81 : decode cL_fetches 81 = .ok (.iload 7, 2) := by decide +kernel
theorem dL_fetches_83 : decode cL_fetches 83 = .ok (.imul, 1) := by decide +kernel
theorem dL_fetches_84 : decode cL_fetches 84 = .ok (.bipush 6, 2) := by decide +kernel
theorem dL_fetches_86 : decode cL_fetches 86 = .ok (.iadd, 1) := by decide +kernel
theorem dL_fetches_87 : decode cL_fetches 87 = .ok (.if_icmp .ge 55, 3) := by decide +kernel
theorem dL_fetches_90 : decode cL_fetches 90 = .ok (.aload 5, 2) := by decide +kernel
theorem dL_fetches_92 : decode cL_fetches 92 = .ok (.iload 10, 2) := by decide +kernel
theorem dL_fetches_94 : decode cL_fetches 94 = .ok (.iaload, 1) := by decide +kernel
theorem dL_fetches_95 : decode cL_fetches 95 = .ok (.aload 5, 2) := by decide +kernel
theorem dL_fetches_97 : decode cL_fetches 97 = .ok (.iload 9, 2) := by decide +kernel
theorem dL_fetches_99 : decode cL_fetches 99 = .ok (.iaload, 1) := by decide +kernel
theorem dL_fetches_100 : decode cL_fetches 100 = .ok (.if_icmp .lt 27, 3) := by decide +kernel
theorem dL_fetches_103 : decode cL_fetches 103 = .ok (.aload 5, 2) := by decide +kernel
theorem dL_fetches_105 : decode cL_fetches 105 = .ok (.iload 10, 2) := by decide +kernel
theorem dL_fetches_107 : decode cL_fetches 107 = .ok (.iaload, 1) := by decide +kernel
theorem dL_fetches_108 : decode cL_fetches 108 = .ok (.aload 5, 2) := by decide +kernel
theorem dL_fetches_110 : decode cL_fetches 110 = .ok (.iload 9, 2) := by decide +kernel
theorem dL_fetches_112 : decode cL_fetches 112 = .ok (.iaload, 1) := by decide +kernel
theorem dL_fetches_113 : decode cL_fetches 113 = .ok (.if_icmp .ne 19, 3) := by decide +kernel
theorem dL_fetches_116 : decode cL_fetches 116 = .ok (.aload_n 2, 1) := by decide +kernel
theorem dL_fetches_117 : decode cL_fetches 117 = .ok (.iload 10, 2) := by decide +kernel
theorem dL_fetches_119 : decode cL_fetches 119 = .ok (.iaload, 1) := by decide +kernel
theorem dL_fetches_120 : decode cL_fetches 120 = .ok (.aload_n 2, 1) := by decide +kernel
theorem dL_fetches_121 : decode cL_fetches 121 = .ok (.iload 9, 2) := by decide +kernel
theorem dL_fetches_123 : decode cL_fetches 123 = .ok (.iaload, 1) := by decide +kernel
theorem dL_fetches_124 : decode cL_fetches 124 = .ok (.if_icmp .ge 8, 3) := by decide +kernel
theorem dL_fetches_127 : decode cL_fetches 127 = .ok (.iload 10, 2) := by decide +kernel
theorem dL_fetches_129 : decode cL_fetches 129 = .ok (.goto 5, 3) := by decide +kernel
theorem dL_fetches_132 : decode cL_fetches 132 = .ok (.iload 9, 2) := by decide +kernel
theorem dL_fetches_134 : decode cL_fetches 134 = .ok (.istore 9, 2) := by decide +kernel
theorem dL_fetches_136 : decode cL_fetches 136 = .ok (.iinc 10 1, 3) := by decide +kernel
theorem dL_fetches_139 : decode cL_fetches 139 = .ok (.goto (-62), 3) := by decide +kernel
theorem dL_fetches_142 : decode cL_fetches 142 = .ok (.aload_n 2, 1) := by decide +kernel
theorem dL_fetches_143 : decode cL_fetches 143 = .ok (.iload 9, 2) := by decide +kernel
theorem dL_fetches_145 : decode cL_fetches 145 = .ok (.iload 8, 2) := by decide +kernel
theorem dL_fetches_147 : decode cL_fetches 147 = .ok (.iconst 1, 1) := by decide +kernel
theorem dL_fetches_148 : decode cL_fetches 148 = .ok (.iadd, 1) := by decide +kernel
theorem dL_fetches_149 : decode cL_fetches 149 = .ok (.iastore, 1) := by decide +kernel
theorem dL_fetches_150 : decode cL_fetches 150 = .ok (.aload_n 3, 1) := by decide +kernel
theorem dL_fetches_151 : decode cL_fetches 151 = .ok (.iload 9, 2) := by decide +kernel
theorem dL_fetches_153 : decode cL_fetches 153 = .ok (.aload_n 0, 1) := by decide +kernel
theorem dL_fetches_154 : decode cL_fetches 154 = .ok (.iload 8, 2) := by decide +kernel
theorem dL_fetches_156 : decode cL_fetches 156 = .ok (.iaload, 1) := by decide +kernel
theorem dL_fetches_157 : decode cL_fetches 157 = .ok (.iastore, 1) := by decide +kernel
theorem dL_fetches_158 : decode cL_fetches 158 = .ok (.aload 4, 2) := by decide +kernel
theorem dL_fetches_160 : decode cL_fetches 160 = .ok (.iload 9, 2) := by decide +kernel
theorem dL_fetches_162 : decode cL_fetches 162 = .ok (.aload_n 0, 1) := by decide +kernel
theorem dL_fetches_163 : decode cL_fetches 163 = .ok (.iload 8, 2) := by decide +kernel
theorem dL_fetches_165 : decode cL_fetches 165 = .ok (.iaload, 1) := by decide +kernel
theorem dL_fetches_166 : decode cL_fetches 166 = .ok (.ifCond .ne 9, 3) := by decide +kernel
theorem dL_fetches_169 : decode cL_fetches 169 = .ok (.aload_n 1, 1) := by decide +kernel
theorem dL_fetches_170 : decode cL_fetches 170 = .ok (.iconst 1, 1) := by decide +kernel
theorem dL_fetches_171 : decode cL_fetches 171 = .ok (.iaload, 1) := by decide +kernel
theorem dL_fetches_172 : decode cL_fetches 172 = .ok (.goto 10, 3) := by decide +kernel
theorem dL_fetches_175 : decode cL_fetches 175 = .ok (.aload_n 0, 1) := by decide +kernel
theorem dL_fetches_176 : decode cL_fetches 176 = .ok (.bipush 16, 2) := by decide +kernel
theorem dL_fetches_178 : decode cL_fetches 178 = .ok (.iload 8, 2) := by decide +kernel
theorem dL_fetches_180 : decode cL_fetches 180 = .ok (.iadd, 1) := by decide +kernel
theorem dL_fetches_181 : decode cL_fetches 181 = .ok (.iaload, 1) := by decide +kernel
theorem dL_fetches_182 : decode cL_fetches 182 = .ok (.iastore, 1) := by decide +kernel
theorem dL_fetches_183 : decode cL_fetches 183 = .ok (.aload 5, 2) := by decide +kernel
theorem dL_fetches_185 : decode cL_fetches 185 = .ok (.iload 9, 2) := by decide +kernel
theorem dL_fetches_187 : decode cL_fetches 187 = .ok (.aload_n 1, 1) := by decide +kernel
theorem dL_fetches_188 : decode cL_fetches 188 = .ok (.iconst 0, 1) := by decide +kernel
theorem dL_fetches_189 : decode cL_fetches 189 = .ok (.iaload, 1) := by decide +kernel
theorem dL_fetches_190 : decode cL_fetches 190 = .ok (.aload 4, 2) := by decide +kernel
theorem dL_fetches_192 : decode cL_fetches 192 = .ok (.iload 9, 2) := by decide +kernel
theorem dL_fetches_194 : decode cL_fetches 194 = .ok (.iaload, 1) := by decide +kernel
theorem dL_fetches_195 : decode cL_fetches 195 = .ok (.iadd, 1) := by decide +kernel
theorem dL_fetches_196 : decode cL_fetches 196 = .ok (.iastore, 1) := by decide +kernel
theorem dL_fetches_197 : decode cL_fetches 197 = .ok (.aload 6, 2) := by decide +kernel
theorem dL_fetches_199 : decode cL_fetches 199 = .ok (.iload 9, 2) := by decide +kernel
theorem dL_fetches_201 : decode cL_fetches 201 = .ok (.iconst 0, 1) := by decide +kernel
theorem dL_fetches_202 : decode cL_fetches 202 = .ok (.iastore, 1) := by decide +kernel
theorem dL_fetches_203 : decode cL_fetches 203 = .ok (.aload_n 1, 1) := by decide +kernel
theorem dL_fetches_204 : decode cL_fetches 204 = .ok (.bipush 11, 2) := by decide +kernel
theorem dL_fetches_206 : decode cL_fetches 206 = .ok (.dup2, 1) := by decide +kernel
theorem dL_fetches_207 : decode cL_fetches 207 = .ok (.iaload, 1) := by decide +kernel
theorem dL_fetches_208 : decode cL_fetches 208 = .ok (.iconst 1, 1) := by decide +kernel
theorem dL_fetches_209 : decode cL_fetches 209 = .ok (.iadd, 1) := by decide +kernel
theorem dL_fetches_210 : decode cL_fetches 210 = .ok (.iastore, 1) := by decide +kernel
theorem dL_fetches_211 : decode cL_fetches 211 = .ok (.aload_n 1, 1) := by decide +kernel
theorem dL_fetches_212 : decode cL_fetches 212 = .ok (.bipush 18, 2) := by decide +kernel
theorem dL_fetches_214 : decode cL_fetches 214 = .ok (.dup2, 1) := by decide +kernel
theorem dL_fetches_215 : decode cL_fetches 215 = .ok (.iaload, 1) := by decide +kernel
theorem dL_fetches_216 : decode cL_fetches 216 = .ok (.iconst 1, 1) := by decide +kernel
theorem dL_fetches_217 : decode cL_fetches 217 = .ok (.iadd, 1) := by decide +kernel
theorem dL_fetches_218 : decode cL_fetches 218 = .ok (.iastore, 1) := by decide +kernel
theorem dL_fetches_219 : decode cL_fetches 219 = .ok (.return_, 1) := by decide +kernel
set_option maxRecDepth 20000 in
theorem ggL_resolves_L_slot : GoodIn wsL_resolves wsL_slot := goodIn_r _ [5] (by decide +kernel) (by decide +kernel)
set_option maxRecDepth 20000 in
theorem gL_resolves_L_slot : GoodIn wsL_resolves (va_wsS RL 7 yL_slot wsL_slot) := goodIn_app (goodIn_of _ (by decide +kernel)) ggL_resolves_L_slot
set_option maxRecDepth 20000 in
theorem ggL_resolves_L_fetches : GoodIn wsL_resolves wsL_fetches := goodIn_r _ [8, 2, 3, 4, 5] (by decide +kernel) (by decide +kernel)
set_option maxRecDepth 20000 in
theorem gL_resolves_L_fetches : GoodIn wsL_resolves (va_wsS RL 13 yL_fetches wsL_fetches) := goodIn_app (goodIn_of _ (by decide +kernel)) ggL_resolves_L_fetches
theorem dL_resolves_0 : decode cL_resolves 0 = .ok (.bipush 6, 2) := by decide +kernel
theorem dL_resolves_2 : decode cL_resolves 2 = .ok (.newarray .int, 2) := by decide +kernel
theorem dL_resolves_4 : decode cL_resolves 4 = .ok (.astore 9, 2) := by decide +kernel
theorem dL_resolves_6 : decode cL_resolves 6 = .ok (.bipush 6, 2) := by decide +kernel
theorem dL_resolves_8 : decode cL_resolves 8 = .ok (.newarray .int, 2) := by decide +kernel
theorem dL_resolves_10 : decode cL_resolves 10 = .ok (.astore 10, 2) := by decide +kernel
theorem dL_resolves_12 : decode cL_resolves 12 = .ok (.iconst 0, 1) := by decide +kernel
theorem dL_resolves_13 : decode cL_resolves 13 = .ok (.istore 11, 2) := by decide +kernel
theorem dL_resolves_15 : decode cL_resolves 15 = .ok (.bipush (-2), 2) := by decide +kernel
theorem dL_resolves_17 : decode cL_resolves 17 = .ok (.istore 12, 2) := by decide +kernel
theorem dL_resolves_19 : decode cL_resolves 19 = .ok (.iload 8, 2) := by decide +kernel
theorem dL_resolves_21 : decode cL_resolves 21 = .ok (.istore 13, 2) := by decide +kernel
theorem dL_resolves_23 : decode cL_resolves 23 = .ok (.iconst 1, 1) := by decide +kernel
theorem dL_resolves_24 : decode cL_resolves 24 = .ok (.istore 14, 2) := by decide +kernel
theorem dL_resolves_26 : decode cL_resolves 26 = .ok (.aload_n 1, 1) := by decide +kernel
theorem dL_resolves_27 : decode cL_resolves 27 = .ok (.bipush 16, 2) := by decide +kernel
theorem dL_resolves_29 : decode cL_resolves 29 = .ok (.iconst 0, 1) := by decide +kernel
theorem dL_resolves_30 : decode cL_resolves 30 = .ok (.iastore, 1) := by decide +kernel
theorem dL_resolves_31 : decode cL_resolves 31 = .ok (.aload_n 1, 1) := by decide +kernel
theorem dL_resolves_32 : decode cL_resolves 32 = .ok (.bipush 17, 2) := by decide +kernel
theorem dL_resolves_34 : decode cL_resolves 34 = .ok (.iconst 0, 1) := by decide +kernel
theorem dL_resolves_35 : decode cL_resolves 35 = .ok (.iastore, 1) := by decide +kernel
theorem dL_resolves_36 : decode cL_resolves 36 = .ok (.aload_n 1, 1) := by decide +kernel
theorem dL_resolves_37 : decode cL_resolves 37 = .ok (.bipush 18, 2) := by decide +kernel
theorem dL_resolves_39 : decode cL_resolves 39 = .ok (.iconst 0, 1) := by decide +kernel
theorem dL_resolves_40 : decode cL_resolves 40 = .ok (.iastore, 1) := by decide +kernel
theorem dL_resolves_41 : decode cL_resolves 41 = .ok (.iload 14, 2) := by decide +kernel
theorem dL_resolves_43 : decode cL_resolves 43 = .ok (.ifCond .eq 223, 3) := by decide +kernel
theorem dL_resolves_46 : decode cL_resolves 46 = .ok (.aload_n 1, 1) := by decide +kernel
theorem dL_resolves_47 : decode cL_resolves 47 = .ok (.bipush 17, 2) := by decide +kernel
theorem dL_resolves_49 : decode cL_resolves 49 = .ok (.iaload, 1) := by decide +kernel
theorem dL_resolves_50 : decode cL_resolves 50 = .ok (.iconst 5, 1) := by decide +kernel
theorem dL_resolves_51 : decode cL_resolves 51 = .ok (.if_icmp .ge 215, 3) := by decide +kernel
theorem dL_resolves_54 : decode cL_resolves 54 = .ok (.aload_n 1, 1) := by decide +kernel
theorem dL_resolves_55 : decode cL_resolves 55 = .ok (.bipush 17, 2) := by decide +kernel
theorem dL_resolves_57 : decode cL_resolves 57 = .ok (.dup2, 1) := by decide +kernel
theorem dL_resolves_58 : decode cL_resolves 58 = .ok (.iaload, 1) := by decide +kernel
theorem dL_resolves_59 : decode cL_resolves 59 = .ok (.iconst 1, 1) := by decide +kernel
theorem dL_resolves_60 : decode cL_resolves 60 = .ok (.iadd, 1) := by decide +kernel
theorem dL_resolves_61 : decode cL_resolves 61 = .ok (.iastore, 1) := by decide +kernel
theorem dL_resolves_62 : decode cL_resolves 62 = .ok (.aload_n 2, 1) := by decide +kernel
theorem dL_resolves_63 : decode cL_resolves 63 = .ok (.iload 7, 2) := by decide +kernel
theorem dL_resolves_65 : decode cL_resolves 65 = .ok (.iload 13, 2) := by decide +kernel
theorem dL_resolves_67 : decode cL_resolves 67 = .ok (.invokestatic 7, 3) := by decide +kernel
theorem dL_resolves_70 : decode cL_resolves 70 = .ok (.istore 15, 2) := by decide +kernel
theorem dL_resolves_72 : decode cL_resolves 72 = .ok (.iload 15, 2) := by decide +kernel
theorem dL_resolves_74 : decode cL_resolves 74 = .ok (.ifCond .lt 46, 3) := by decide +kernel
theorem dL_resolves_77 : decode cL_resolves 77 = .ok (.aload 5, 2) := by decide +kernel
theorem dL_resolves_79 : decode cL_resolves 79 = .ok (.iload 15, 2) := by decide +kernel
theorem dL_resolves_81 : decode cL_resolves 81 = .ok (.iaload, 1) := by decide +kernel
theorem dL_resolves_82 : decode cL_resolves 82 = .ok (.aload_n 1, 1) := by decide +kernel
theorem dL_resolves_83 : decode cL_resolves 83 = .ok (.iconst 0, 1) := by decide +kernel
theorem dL_resolves_84 : decode cL_resolves 84 = .ok (.iaload, 1) := by decide +kernel
theorem dL_resolves_85 : decode cL_resolves 85 = .ok (.if_icmp .le 35, 3) := by decide +kernel
theorem dL_resolves_88 : decode cL_resolves 88 = .ok (.aload 6, 2) := by decide +kernel
theorem dL_resolves_90 : decode cL_resolves 90 = .ok (.iload 15, 2) := by decide +kernel
theorem dL_resolves_92 : decode cL_resolves 92 = .ok (.dup2, 1) := by decide +kernel
theorem dL_resolves_93 : decode cL_resolves 93 = .ok (.iaload, 1) := by decide +kernel
theorem dL_resolves_94 : decode cL_resolves 94 = .ok (.iconst 1, 1) := by decide +kernel
theorem dL_resolves_95 : decode cL_resolves 95 = .ok (.iadd, 1) := by decide +kernel
theorem dL_resolves_96 : decode cL_resolves 96 = .ok (.iastore, 1) := by decide +kernel
theorem dL_resolves_97 : decode cL_resolves 97 = .ok (.aload 9, 2) := by decide +kernel
theorem dL_resolves_99 : decode cL_resolves 99 = .ok (.iload 11, 2) := by decide +kernel
theorem dL_resolves_101 : decode cL_resolves 101 = .ok (.iload 13, 2) := by decide +kernel
theorem dL_resolves_103 : decode cL_resolves 103 = .ok (.iastore, 1) := by decide +kernel
theorem dL_resolves_104 : decode cL_resolves 104 = .ok (.aload 10, 2) := by decide +kernel
theorem dL_resolves_106 : decode cL_resolves 106 = .ok (.iload 11, 2) := by decide +kernel
theorem dL_resolves_108 : decode cL_resolves 108 = .ok (.aload 5, 2) := by decide +kernel
theorem dL_resolves_110 : decode cL_resolves 110 = .ok (.iload 15, 2) := by decide +kernel
theorem dL_resolves_112 : decode cL_resolves 112 = .ok (.iaload, 1) := by decide +kernel
theorem dL_resolves_113 : decode cL_resolves 113 = .ok (.iastore, 1) := by decide +kernel
theorem dL_resolves_114 : decode cL_resolves 114 = .ok (.iinc 11 1, 3) := by decide +kernel
theorem dL_resolves_117 : decode cL_resolves 117 = .ok (.goto 70, 3) := by decide +kernel
theorem dL_resolves_120 : decode cL_resolves 120 = .ok (.aload_n 1, 1) := by decide +kernel
theorem dL_resolves_121 : decode cL_resolves 121 = .ok (.iconst 2, 1) := by decide +kernel
theorem dL_resolves_122 : decode cL_resolves 122 = .ok (.iaload, 1) := by decide +kernel
theorem dL_resolves_123 : decode cL_resolves 123 = .ok (.iconst 1, 1) := by decide +kernel
theorem dL_resolves_124 : decode cL_resolves 124 = .ok (.if_icmp .ne 33, 3) := by decide +kernel
theorem dL_resolves_127 : decode cL_resolves 127 = .ok (.aload_n 0, 1) := by decide +kernel
theorem dL_resolves_128 : decode cL_resolves 128 = .ok (.aload_n 1, 1) := by decide +kernel
theorem dL_resolves_129 : decode cL_resolves 129 = .ok (.aload_n 2, 1) := by decide +kernel
theorem dL_resolves_130 : decode cL_resolves 130 = .ok (.aload_n 3, 1) := by decide +kernel
theorem dL_resolves_131 : decode cL_resolves 131 = .ok (.aload 4, 2) := by decide +kernel
theorem dL_resolves_133 : decode cL_resolves 133 = .ok (.aload 5, 2) := by decide +kernel
theorem dL_resolves_135 : decode cL_resolves 135 = .ok (.aload 6, 2) := by decide +kernel
theorem dL_resolves_137 : decode cL_resolves 137 = .ok (.iload 7, 2) := by decide +kernel
theorem dL_resolves_139 : decode cL_resolves 139 = .ok (.iload 13, 2) := by decide +kernel
theorem dL_resolves_141 : decode cL_resolves 141 = .ok (.invokestatic 13, 3) := by decide +kernel
theorem dL_resolves_144 : decode cL_resolves 144 = .ok (.aload_n 2, 1) := by decide +kernel
theorem dL_resolves_145 : decode cL_resolves 145 = .ok (.iload 7, 2) := by decide +kernel
theorem dL_resolves_147 : decode cL_resolves 147 = .ok (.iload 13, 2) := by decide +kernel
theorem dL_resolves_149 : decode cL_resolves 149 = .ok (.invokestatic 7, 3) := by decide +kernel
theorem dL_resolves_152 : decode cL_resolves 152 = .ok (.istore 15, 2) := by decide +kernel
theorem dL_resolves_154 : decode cL_resolves 154 = .ok (.goto 33, 3) := by decide +kernel
theorem dL_resolves_157 : decode cL_resolves 157 = .ok (.iload 15, 2) := by decide +kernel
theorem dL_resolves_159 : decode cL_resolves 159 = .ok (.ifCond .lt 25, 3) := by decide +kernel
theorem dL_resolves_162 : decode cL_resolves 162 = .ok (.aload_n 1, 1) := by decide +kernel
theorem dL_resolves_163 : decode cL_resolves 163 = .ok (.iconst 0, 1) := by decide +kernel
theorem dL_resolves_164 : decode cL_resolves 164 = .ok (.iaload, 1) := by decide +kernel
theorem dL_resolves_165 : decode cL_resolves 165 = .ok (.aload 5, 2) := by decide +kernel
theorem dL_resolves_167 : decode cL_resolves 167 = .ok (.iload 15, 2) := by decide +kernel
theorem dL_resolves_169 : decode cL_resolves 169 = .ok (.iaload, 1) := by decide +kernel
theorem dL_resolves_170 : decode cL_resolves 170 = .ok (.isub, 1) := by decide +kernel
theorem dL_resolves_171 : decode cL_resolves 171 = .ok (.bipush 100, 2) := by decide +kernel
theorem dL_resolves_173 : decode cL_resolves 173 = .ok (.if_icmp .ge 11, 3) := by decide +kernel
theorem dL_resolves_176 : decode cL_resolves 176 = .ok (.aload_n 1, 1) := by decide +kernel
theorem dL_resolves_177 : decode cL_resolves 177 = .ok (.bipush 16, 2) := by decide +kernel
theorem dL_resolves_179 : decode cL_resolves 179 = .ok (.iconst 1, 1) := by decide +kernel
theorem dL_resolves_180 : decode cL_resolves 180 = .ok (.iastore, 1) := by decide +kernel
theorem dL_resolves_181 : decode cL_resolves 181 = .ok (.goto 6, 3) := by decide +kernel
theorem dL_resolves_184 : decode cL_resolves 184 = .ok (.iconst (-1), 1) := by decide +kernel
theorem dL_resolves_185 : decode cL_resolves 185 = .ok (.istore 15, 2) := by decide +kernel
theorem dL_resolves_187 : decode cL_resolves 187 = .ok (.iload 15, 2) := by decide +kernel
theorem dL_resolves_189 : decode cL_resolves 189 = .ok (.ifCond .lt 14, 3) := by decide +kernel
theorem dL_resolves_192 : decode cL_resolves 192 = .ok (.aload_n 3, 1) := by decide +kernel
theorem dL_resolves_193 : decode cL_resolves 193 = .ok (.iload 15, 2) := by decide +kernel
theorem dL_resolves_195 : decode cL_resolves 195 = .ok (.iaload, 1) := by decide +kernel
theorem dL_resolves_196 : decode cL_resolves 196 = .ok (.ifCond .ge 7, 3) := by decide +kernel
theorem dL_resolves_199 : decode cL_resolves 199 = .ok (.iconst 1, 1) := by decide +kernel
theorem dL_resolves_200 : decode cL_resolves 200 = .ok (.goto 4, 3) := by decide +kernel
theorem dL_resolves_203 : decode cL_resolves 203 = .ok (.iconst 0, 1) := by decide +kernel
theorem dL_resolves_204 : decode cL_resolves 204 = .ok (.istore 14, 2) := by decide +kernel
theorem dL_resolves_206 : decode cL_resolves 206 = .ok (.iload 15, 2) := by decide +kernel
theorem dL_resolves_208 : decode cL_resolves 208 = .ok (.ifCond .ge 8, 3) := by decide +kernel
theorem dL_resolves_211 : decode cL_resolves 211 = .ok (.bipush (-2), 2) := by decide +kernel
theorem dL_resolves_213 : decode cL_resolves 213 = .ok (.goto 30, 3) := by decide +kernel
theorem dL_resolves_216 : decode cL_resolves 216 = .ok (.aload_n 3, 1) := by decide +kernel
theorem dL_resolves_217 : decode cL_resolves 217 = .ok (.iload 15, 2) := by decide +kernel
theorem dL_resolves_219 : decode cL_resolves 219 = .ok (.iaload, 1) := by decide +kernel
theorem dL_resolves_220 : decode cL_resolves 220 = .ok (.ifCond .le 10, 3) := by decide +kernel
theorem dL_resolves_223 : decode cL_resolves 223 = .ok (.aload_n 3, 1) := by decide +kernel
theorem dL_resolves_224 : decode cL_resolves 224 = .ok (.iload 15, 2) := by decide +kernel
theorem dL_resolves_226 : decode cL_resolves 226 = .ok (.iaload, 1) := by decide +kernel
theorem dL_resolves_227 : decode cL_resolves 227 = .ok (.goto 16, 3) := by decide +kernel
theorem dL_resolves_230 : decode cL_resolves 230 = .ok (.aload_n 3, 1) := by decide +kernel
theorem dL_resolves_231 : decode cL_resolves 231 = .ok (.iload 15, 2) := by decide +kernel
theorem dL_resolves_233 : decode cL_resolves 233 = .ok (.iaload, 1) := by decide +kernel
theorem dL_resolves_234 : decode cL_resolves 234 = .ok (.ifCond .ne 7, 3) := by decide +kernel
theorem dL_resolves_237 : decode cL_resolves 237 = .ok (.iconst (-1), 1) := by decide +kernel
theorem dL_resolves_238 : decode cL_resolves 238 = .ok (.goto 5, 3) := by decide +kernel
theorem dL_resolves_241 : decode cL_resolves 241 = .ok (.bipush (-2), 2) := by decide +kernel
theorem dL_resolves_243 : decode cL_resolves 243 = .ok (.istore 12, 2) := by decide +kernel
theorem dL_resolves_245 : decode cL_resolves 245 = .ok (.iload 14, 2) := by decide +kernel
theorem dL_resolves_247 : decode cL_resolves 247 = .ok (.ifCond .eq 12, 3) := by decide +kernel
theorem dL_resolves_250 : decode cL_resolves 250 = .ok (.iconst (-1), 1) := by decide +kernel
theorem dL_resolves_251 : decode cL_resolves 251 = .ok (.aload_n 3, 1) := by decide +kernel
theorem dL_resolves_252 : decode cL_resolves 252 = .ok (.iload 15, 2) := by decide +kernel
theorem dL_resolves_254 : decode cL_resolves 254 = .ok (.iaload, 1) := by decide +kernel
theorem dL_resolves_255 : decode cL_resolves 255 = .ok (.isub, 1) := by decide +kernel
theorem dL_resolves_256 : decode cL_resolves 256 = .ok (.goto 5, 3) := by decide +kernel
theorem dL_resolves_259 : decode cL_resolves 259 = .ok (.iload 13, 2) := by decide +kernel
theorem dL_resolves_261 : decode cL_resolves 261 = .ok (.istore 13, 2) := by decide +kernel
theorem dL_resolves_263 : decode cL_resolves 263 = .ok (.goto (-222), 3) := by decide +kernel
theorem dL_resolves_266 : decode cL_resolves 266 = .ok (.iconst 0, 1) := by decide +kernel
theorem dL_resolves_267 : decode cL_resolves 267 = .ok (.istore 15, 2) := by decide +kernel
theorem dL_resolves_269 : decode cL_resolves 269 = .ok (.iload 15, 2) := by decide +kernel
theorem dL_resolves_271 : decode cL_resolves 271 = .ok (.iload 11, 2) := by decide +kernel
theorem dL_resolves_273 : decode cL_resolves 273 = .ok (.if_icmp .ge 103, 3) := by decide +kernel
theorem dL_resolves_276 : decode cL_resolves 276 = .ok (.aload_n 2, 1) := by decide +kernel
theorem dL_resolves_277 : decode cL_resolves 277 = .ok (.iload 7, 2) := by decide +kernel
theorem dL_resolves_279 : decode cL_resolves 279 = .ok (.aload 9, 2) := by decide +kernel
theorem dL_resolves_281 : decode cL_resolves 281 = .ok (.iload 15, 2) := by decide +kernel
theorem dL_resolves_283 : decode cL_resolves 283 = .ok (.iaload, 1) := by decide +kernel
theorem dL_resolves_284 : decode cL_resolves 284 = .ok (.invokestatic 7, 3) := by decide +kernel
theorem dL_resolves_287 : decode cL_resolves 287 = .ok (.istore 16, 2) := by decide +kernel
theorem dL_resolves_289 : decode cL_resolves 289 = .ok (.aload_n 1, 1) := by decide +kernel
theorem dL_resolves_290 : decode cL_resolves 290 = .ok (.iconst 2, 1) := by decide +kernel
theorem dL_resolves_291 : decode cL_resolves 291 = .ok (.iaload, 1) := by decide +kernel
theorem dL_resolves_292 : decode cL_resolves 292 = .ok (.iconst 1, 1) := by decide +kernel
theorem dL_resolves_293 : decode cL_resolves 293 = .ok (.if_icmp .ne 77, 3) := by decide +kernel
theorem dL_resolves_296 : decode cL_resolves 296 = .ok (.iload 16, 2) := by decide +kernel
theorem dL_resolves_298 : decode cL_resolves 298 = .ok (.ifCond .lt 72, 3) := by decide +kernel
theorem dL_resolves_301 : decode cL_resolves 301 = .ok (.aload 5, 2) := by decide +kernel
theorem dL_resolves_303 : decode cL_resolves 303 = .ok (.iload 16, 2) := by decide +kernel
theorem dL_resolves_305 : decode cL_resolves 305 = .ok (.iaload, 1) := by decide +kernel
theorem dL_resolves_306 : decode cL_resolves 306 = .ok (.aload 10, 2) := by decide +kernel
theorem dL_resolves_308 : decode cL_resolves 308 = .ok (.iload 15, 2) := by decide +kernel
theorem dL_resolves_310 : decode cL_resolves 310 = .ok (.iaload, 1) := by decide +kernel
theorem dL_resolves_311 : decode cL_resolves 311 = .ok (.if_icmp .ne 59, 3) := by decide +kernel
theorem dL_resolves_314 : decode cL_resolves 314 = .ok (.aload 6, 2) := by decide +kernel
theorem dL_resolves_316 : decode cL_resolves 316 = .ok (.iload 16, 2) := by decide +kernel
theorem dL_resolves_318 : decode cL_resolves 318 = .ok (.iaload, 1) := by decide +kernel
theorem dL_resolves_319 : decode cL_resolves 319 = .ok (.iconst 2, 1) := by decide +kernel
theorem dL_resolves_320 : decode cL_resolves 320 = .ok (.if_icmp .le 50, 3) := by decide +kernel
theorem dL_resolves_323 : decode cL_resolves 323 = .ok (.iconst 4, 1) := by decide +kernel
theorem dL_resolves_324 : decode cL_resolves 324 = .ok (.aload 5, 2) := by decide +kernel
theorem dL_resolves_326 : decode cL_resolves 326 = .ok (.iload 16, 2) := by decide +kernel
theorem dL_resolves_328 : decode cL_resolves 328 = .ok (.iaload, 1) := by decide +kernel
theorem dL_resolves_329 : decode cL_resolves 329 = .ok (.aload_n 1, 1) := by decide +kernel
theorem dL_resolves_330 : decode cL_resolves 330 = .ok (.iconst 0, 1) := by decide +kernel
theorem dL_resolves_331 : decode cL_resolves 331 = .ok (.iaload, 1) := by decide +kernel
theorem dL_resolves_332 : decode cL_resolves 332 = .ok (.isub, 1) := by decide +kernel
theorem dL_resolves_333 : decode cL_resolves 333 = .ok (.imul, 1) := by decide +kernel
theorem dL_resolves_334 : decode cL_resolves 334 = .ok (.aload 4, 2) := by decide +kernel
theorem dL_resolves_336 : decode cL_resolves 336 = .ok (.iload 16, 2) := by decide +kernel
theorem dL_resolves_338 : decode cL_resolves 338 = .ok (.iaload, 1) := by decide +kernel
theorem dL_resolves_339 : decode cL_resolves 339 = .ok (.if_icmp .gt 31, 3) := by decide +kernel
theorem dL_resolves_342 : decode cL_resolves 342 = .ok (.aload_n 0, 1) := by decide +kernel
theorem dL_resolves_343 : decode cL_resolves 343 = .ok (.aload_n 1, 1) := by decide +kernel
theorem dL_resolves_344 : decode cL_resolves 344 = .ok (.aload_n 2, 1) := by decide +kernel
theorem dL_resolves_345 : decode cL_resolves 345 = .ok (.aload_n 3, 1) := by decide +kernel
theorem dL_resolves_346 : decode cL_resolves 346 = .ok (.aload 4, 2) := by decide +kernel
theorem dL_resolves_348 : decode cL_resolves 348 = .ok (.aload 5, 2) := by decide +kernel
theorem dL_resolves_350 : decode cL_resolves 350 = .ok (.aload 6, 2) := by decide +kernel
theorem dL_resolves_352 : decode cL_resolves 352 = .ok (.iload 7, 2) := by decide +kernel
theorem dL_resolves_354 : decode cL_resolves 354 = .ok (.aload 9, 2) := by decide +kernel
theorem dL_resolves_356 : decode cL_resolves 356 = .ok (.iload 15, 2) := by decide +kernel
theorem dL_resolves_358 : decode cL_resolves 358 = .ok (.iaload, 1) := by decide +kernel
theorem dL_resolves_359 : decode cL_resolves 359 = .ok (.invokestatic 13, 3) := by decide +kernel
theorem dL_resolves_362 : decode cL_resolves 362 = .ok (.aload_n 1, 1) := by decide +kernel
theorem dL_resolves_363 : decode cL_resolves 363 = .ok (.bipush 12, 2) := by decide +kernel
theorem dL_resolves_365 : decode cL_resolves 365 = .ok (.dup2, 1) := by decide +kernel
theorem dL_resolves_366 : decode cL_resolves 366 = .ok (.iaload, 1) := by decide +kernel
theorem dL_resolves_367 : decode cL_resolves 367 = .ok (.iconst 1, 1) := by decide +kernel
theorem dL_resolves_368 : decode cL_resolves 368 = .ok (.iadd, 1) := by decide +kernel
theorem dL_resolves_369 : decode cL_resolves 369 = .ok (.iastore, 1) := by decide +kernel
theorem dL_resolves_370 : decode cL_resolves 370 = .ok (.iinc 15 1, 3) := by decide +kernel
theorem dL_resolves_373 : decode cL_resolves 373 = .ok (.goto (-104), 3) := by decide +kernel
theorem dL_resolves_376 : decode cL_resolves 376 = .ok (.iload 12, 2) := by decide +kernel
theorem dL_resolves_378 : decode cL_resolves 378 = .ok (.ireturn, 1) := by decide +kernel
theorem dL_nearest_0 : decode cL_nearest 0 = .ok (.bipush (-3), 2) := by decide +kernel
theorem dL_nearest_2 : decode cL_nearest 2 = .ok (.istore_n 2, 1) := by decide +kernel
theorem dL_nearest_3 : decode cL_nearest 3 = .ok (.sipush 1000, 3) := by decide +kernel
theorem dL_nearest_6 : decode cL_nearest 6 = .ok (.istore_n 3, 1) := by decide +kernel
theorem dL_nearest_7 : decode cL_nearest 7 = .ok (.iconst 0, 1) := by decide +kernel
theorem dL_nearest_8 : decode cL_nearest 8 = .ok (.istore 4, 2) := by decide +kernel
theorem dL_nearest_10 : decode cL_nearest 10 = .ok (.iload 4, 2) := by decide +kernel
theorem dL_nearest_12 : decode cL_nearest 12 = .ok (.aload_n 0, 1) := by decide +kernel
theorem dL_nearest_13 : decode cL_nearest 13 = .ok (.iconst 3, 1) := by decide +kernel
theorem dL_nearest_14 : decode cL_nearest 14 = .ok (.iaload, 1) := by decide +kernel
theorem dL_nearest_15 : decode cL_nearest 15 = .ok (.if_icmp .ge 64, 3) := by decide +kernel
theorem dL_nearest_18 : decode cL_nearest 18 = .ok (.aload_n 0, 1) := by decide +kernel
theorem dL_nearest_19 : decode cL_nearest 19 = .ok (.iconst 5, 1) := by decide +kernel
theorem dL_nearest_20 : decode cL_nearest 20 = .ok (.iload 4, 2) := by decide +kernel
theorem dL_nearest_22 : decode cL_nearest 22 = .ok (.iadd, 1) := by decide +kernel
theorem dL_nearest_23 : decode cL_nearest 23 = .ok (.iaload, 1) := by decide +kernel
theorem dL_nearest_24 : decode cL_nearest 24 = .ok (.iload_n 1, 1) := by decide +kernel
theorem dL_nearest_25 : decode cL_nearest 25 = .ok (.if_icmp .le 14, 3) := by decide +kernel
theorem dL_nearest_28 : decode cL_nearest 28 = .ok (.aload_n 0, 1) := by decide +kernel
theorem dL_nearest_29 : decode cL_nearest 29 = .ok (.iconst 5, 1) := by decide +kernel
theorem dL_nearest_30 : decode cL_nearest 30 = .ok (.iload 4, 2) := by decide +kernel
theorem dL_nearest_32 : decode cL_nearest 32 = .ok (.iadd, 1) := by decide +kernel
theorem dL_nearest_33 : decode cL_nearest 33 = .ok (.iaload, 1) := by decide +kernel
theorem dL_nearest_34 : decode cL_nearest 34 = .ok (.iload_n 1, 1) := by decide +kernel
theorem dL_nearest_35 : decode cL_nearest 35 = .ok (.isub, 1) := by decide +kernel
theorem dL_nearest_36 : decode cL_nearest 36 = .ok (.goto 11, 3) := by decide +kernel
theorem dL_nearest_39 : decode cL_nearest 39 = .ok (.iload_n 1, 1) := by decide +kernel
theorem dL_nearest_40 : decode cL_nearest 40 = .ok (.aload_n 0, 1) := by decide +kernel
theorem dL_nearest_41 : decode cL_nearest 41 = .ok (.iconst 5, 1) := by decide +kernel
theorem dL_nearest_42 : decode cL_nearest 42 = .ok (.iload 4, 2) := by decide +kernel
theorem dL_nearest_44 : decode cL_nearest 44 = .ok (.iadd, 1) := by decide +kernel
theorem dL_nearest_45 : decode cL_nearest 45 = .ok (.iaload, 1) := by decide +kernel
theorem dL_nearest_46 : decode cL_nearest 46 = .ok (.isub, 1) := by decide +kernel
theorem dL_nearest_47 : decode cL_nearest 47 = .ok (.istore 5, 2) := by decide +kernel
theorem dL_nearest_49 : decode cL_nearest 49 = .ok (.aload_n 0, 1) := by decide +kernel
theorem dL_nearest_50 : decode cL_nearest 50 = .ok (.iconst 4, 1) := by decide +kernel
theorem dL_nearest_51 : decode cL_nearest 51 = .ok (.iaload, 1) := by decide +kernel
theorem dL_nearest_52 : decode cL_nearest 52 = .ok (.iload 4, 2) := by decide +kernel
theorem dL_nearest_54 : decode cL_nearest 54 = .ok (.ishr, 1) := by decide +kernel
theorem dL_nearest_55 : decode cL_nearest 55 = .ok (.iconst 1, 1) := by decide +kernel
theorem dL_nearest_56 : decode cL_nearest 56 = .ok (.iand, 1) := by decide +kernel
theorem dL_nearest_57 : decode cL_nearest 57 = .ok (.iconst 1, 1) := by decide +kernel
theorem dL_nearest_58 : decode cL_nearest 58 = .ok (.if_icmp .ne 15, 3) := by decide +kernel
theorem dL_nearest_61 : decode cL_nearest 61 = .ok (.iload 5, 2) := by decide +kernel
theorem dL_nearest_63 : decode cL_nearest 63 = .ok (.iload_n 3, 1) := by decide +kernel
theorem dL_nearest_64 : decode cL_nearest 64 = .ok (.if_icmp .ge 9, 3) := by decide +kernel
theorem dL_nearest_67 : decode cL_nearest 67 = .ok (.iload 5, 2) := by decide +kernel
theorem dL_nearest_69 : decode cL_nearest 69 = .ok (.istore_n 3, 1) := by decide +kernel
theorem dL_nearest_70 : decode cL_nearest 70 = .ok (.iload 4, 2) := by decide +kernel
theorem dL_nearest_72 : decode cL_nearest 72 = .ok (.istore_n 2, 1) := by decide +kernel
theorem dL_nearest_73 : decode cL_nearest 73 = .ok (.iinc 4 1, 3) := by decide +kernel
theorem dL_nearest_76 : decode cL_nearest 76 = .ok (.goto (-66), 3) := by decide +kernel
theorem dL_nearest_79 : decode cL_nearest 79 = .ok (.iload_n 2, 1) := by decide +kernel
theorem dL_nearest_80 : decode cL_nearest 80 = .ok (.ireturn, 1) := by decide +kernel
set_option maxRecDepth 20000 in
theorem ggL_asks_L_nearest : GoodIn wsL_asks wsL_nearest := goodIn_r _ [4] (by decide +kernel) (by decide +kernel)
set_option maxRecDepth 20000 in
theorem gL_asks_L_nearest : GoodIn wsL_asks (va_wsS RL 17 yL_nearest wsL_nearest) := goodIn_app (goodIn_of _ (by decide +kernel)) ggL_asks_L_nearest
set_option maxRecDepth 20000 in
theorem ggL_asks_L_resolves : GoodIn wsL_asks wsL_resolves := goodIn_r _ [7, 8, 9, 10, 3, 11, 12, 13, 14] (by decide +kernel) (by decide +kernel)
set_option maxRecDepth 20000 in
theorem gL_asks_L_resolves : GoodIn wsL_asks (va_wsS RL 21 yL_resolves wsL_resolves) := goodIn_app (goodIn_of _ (by decide +kernel)) ggL_asks_L_resolves
theorem dL_asks_0 : decode cL_asks 0 = .ok (.aload_n 1, 1) := by decide +kernel
theorem dL_asks_1 : decode cL_asks 1 = .ok (.iload 7, 2) := by decide +kernel
theorem dL_asks_3 : decode cL_asks 3 = .ok (.invokestatic 17, 3) := by decide +kernel
theorem dL_asks_6 : decode cL_asks 6 = .ok (.istore 9, 2) := by decide +kernel
theorem dL_asks_8 : decode cL_asks 8 = .ok (.iload 9, 2) := by decide +kernel
theorem dL_asks_10 : decode cL_asks 10 = .ok (.ifCond .ge 6, 3) := by decide +kernel
theorem dL_asks_13 : decode cL_asks 13 = .ok (.bipush (-13), 2) := by decide +kernel
theorem dL_asks_15 : decode cL_asks 15 = .ok (.ireturn, 1) := by decide +kernel
theorem dL_asks_16 : decode cL_asks 16 = .ok (.aload_n 0, 1) := by decide +kernel
theorem dL_asks_17 : decode cL_asks 17 = .ok (.aload_n 1, 1) := by decide +kernel
theorem dL_asks_18 : decode cL_asks 18 = .ok (.aload_n 2, 1) := by decide +kernel
theorem dL_asks_19 : decode cL_asks 19 = .ok (.aload_n 3, 1) := by decide +kernel
theorem dL_asks_20 : decode cL_asks 20 = .ok (.aload 4, 2) := by decide +kernel
theorem dL_asks_22 : decode cL_asks 22 = .ok (.aload 5, 2) := by decide +kernel
theorem dL_asks_24 : decode cL_asks 24 = .ok (.aload 6, 2) := by decide +kernel
theorem dL_asks_26 : decode cL_asks 26 = .ok (.iload 9, 2) := by decide +kernel
theorem dL_asks_28 : decode cL_asks 28 = .ok (.iload 8, 2) := by decide +kernel
theorem dL_asks_30 : decode cL_asks 30 = .ok (.invokestatic 21, 3) := by decide +kernel
theorem dL_asks_33 : decode cL_asks 33 = .ok (.istore 10, 2) := by decide +kernel
theorem dL_asks_35 : decode cL_asks 35 = .ok (.aload_n 1, 1) := by decide +kernel
theorem dL_asks_36 : decode cL_asks 36 = .ok (.bipush 10, 2) := by decide +kernel
theorem dL_asks_38 : decode cL_asks 38 = .ok (.dup2, 1) := by decide +kernel
theorem dL_asks_39 : decode cL_asks 39 = .ok (.iaload, 1) := by decide +kernel
theorem dL_asks_40 : decode cL_asks 40 = .ok (.iconst 1, 1) := by decide +kernel
theorem dL_asks_41 : decode cL_asks 41 = .ok (.iadd, 1) := by decide +kernel
theorem dL_asks_42 : decode cL_asks 42 = .ok (.iastore, 1) := by decide +kernel
theorem dL_asks_43 : decode cL_asks 43 = .ok (.aload_n 1, 1) := by decide +kernel
theorem dL_asks_44 : decode cL_asks 44 = .ok (.bipush 13, 2) := by decide +kernel
theorem dL_asks_46 : decode cL_asks 46 = .ok (.dup2, 1) := by decide +kernel
theorem dL_asks_47 : decode cL_asks 47 = .ok (.iaload, 1) := by decide +kernel
theorem dL_asks_48 : decode cL_asks 48 = .ok (.aload_n 1, 1) := by decide +kernel
theorem dL_asks_49 : decode cL_asks 49 = .ok (.bipush 16, 2) := by decide +kernel
theorem dL_asks_51 : decode cL_asks 51 = .ok (.iaload, 1) := by decide +kernel
theorem dL_asks_52 : decode cL_asks 52 = .ok (.iadd, 1) := by decide +kernel
theorem dL_asks_53 : decode cL_asks 53 = .ok (.iastore, 1) := by decide +kernel
theorem dL_asks_54 : decode cL_asks 54 = .ok (.aload_n 1, 1) := by decide +kernel
theorem dL_asks_55 : decode cL_asks 55 = .ok (.bipush 14, 2) := by decide +kernel
theorem dL_asks_57 : decode cL_asks 57 = .ok (.dup2, 1) := by decide +kernel
theorem dL_asks_58 : decode cL_asks 58 = .ok (.iaload, 1) := by decide +kernel
theorem dL_asks_59 : decode cL_asks 59 = .ok (.iload 10, 2) := by decide +kernel
theorem dL_asks_61 : decode cL_asks 61 = .ok (.bipush (-2), 2) := by decide +kernel
theorem dL_asks_63 : decode cL_asks 63 = .ok (.if_icmp .ne 7, 3) := by decide +kernel
theorem dL_asks_66 : decode cL_asks 66 = .ok (.iconst 1, 1) := by decide +kernel
theorem dL_asks_67 : decode cL_asks 67 = .ok (.goto 4, 3) := by decide +kernel
theorem dL_asks_70 : decode cL_asks 70 = .ok (.iconst 0, 1) := by decide +kernel
theorem dL_asks_71 : decode cL_asks 71 = .ok (.iadd, 1) := by decide +kernel
theorem dL_asks_72 : decode cL_asks 72 = .ok (.iastore, 1) := by decide +kernel
theorem dL_asks_73 : decode cL_asks 73 = .ok (.aload_n 1, 1) := by decide +kernel
theorem dL_asks_74 : decode cL_asks 74 = .ok (.bipush 15, 2) := by decide +kernel
theorem dL_asks_76 : decode cL_asks 76 = .ok (.iload 9, 2) := by decide +kernel
theorem dL_asks_78 : decode cL_asks 78 = .ok (.iastore, 1) := by decide +kernel
theorem dL_asks_79 : decode cL_asks 79 = .ok (.iload 10, 2) := by decide +kernel
theorem dL_asks_81 : decode cL_asks 81 = .ok (.ireturn, 1) := by decide +kernel
set_option maxRecDepth 20000 in
theorem ggL_tries_L_asks : GoodIn wsL_tries wsL_asks := goodIn_r _ [5, 6, 7, 4, 8, 9, 10, 11, 1, 12, 13, 14, 15, 16, 17] (by decide +kernel) (by decide +kernel)
set_option maxRecDepth 20000 in
theorem gL_tries_L_asks : GoodIn wsL_tries (va_wsS RL 25 yL_asks wsL_asks) := goodIn_app (goodIn_of _ (by decide +kernel)) ggL_tries_L_asks
theorem dL_tries_0 : decode cL_tries 0 = .ok (.bipush 20, 2) := by decide +kernel
theorem dL_tries_2 : decode cL_tries 2 = .ok (.newarray .int, 2) := by decide +kernel
theorem dL_tries_4 : decode cL_tries 4 = .ok (.astore 9, 2) := by decide +kernel
theorem dL_tries_6 : decode cL_tries 6 = .ok (.bipush 24, 2) := by decide +kernel
theorem dL_tries_8 : decode cL_tries 8 = .ok (.newarray .int, 2) := by decide +kernel
theorem dL_tries_10 : decode cL_tries 10 = .ok (.astore 10, 2) := by decide +kernel
theorem dL_tries_12 : decode cL_tries 12 = .ok (.bipush 24, 2) := by decide +kernel
theorem dL_tries_14 : decode cL_tries 14 = .ok (.newarray .int, 2) := by decide +kernel
theorem dL_tries_16 : decode cL_tries 16 = .ok (.astore 11, 2) := by decide +kernel
theorem dL_tries_18 : decode cL_tries 18 = .ok (.bipush 24, 2) := by decide +kernel
theorem dL_tries_20 : decode cL_tries 20 = .ok (.newarray .int, 2) := by decide +kernel
theorem dL_tries_22 : decode cL_tries 22 = .ok (.astore 12, 2) := by decide +kernel
theorem dL_tries_24 : decode cL_tries 24 = .ok (.bipush 24, 2) := by decide +kernel
theorem dL_tries_26 : decode cL_tries 26 = .ok (.newarray .int, 2) := by decide +kernel
theorem dL_tries_28 : decode cL_tries 28 = .ok (.astore 13, 2) := by decide +kernel
theorem dL_tries_30 : decode cL_tries 30 = .ok (.bipush 24, 2) := by decide +kernel
theorem dL_tries_32 : decode cL_tries 32 = .ok (.newarray .int, 2) := by decide +kernel
theorem dL_tries_34 : decode cL_tries 34 = .ok (.astore 14, 2) := by decide +kernel
theorem dL_tries_36 : decode cL_tries 36 = .ok (.iconst 0, 1) := by decide +kernel
theorem dL_tries_37 : decode cL_tries 37 = .ok (.istore 15, 2) := by decide +kernel
theorem dL_tries_39 : decode cL_tries 39 = .ok (.iload 15, 2) := by decide +kernel
theorem dL_tries_41 : decode cL_tries 41 = .ok (.bipush 24, 2) := by decide +kernel
theorem dL_tries_43 : decode cL_tries 43 = .ok (.if_icmp .ge 90, 3) := by decide +kernel
theorem dL_tries_46 : decode cL_tries 46 = .ok (.aload 9, 2) := by decide +kernel
theorem dL_tries_48 : decode cL_tries 48 = .ok (.iload 15, 2) := by decide +kernel
theorem dL_tries_50 : decode cL_tries 50 = .ok (.bipush 20, 2) := by decide +kernel
theorem dL_tries_52 : decode cL_tries 52 = .ok (.if_icmp .ge 8, 3) := by decide +kernel
theorem dL_tries_55 : decode cL_tries 55 = .ok (.iload 15, 2) := by decide +kernel
theorem dL_tries_57 : decode cL_tries 57 = .ok (.goto 5, 3) := by decide +kernel
theorem dL_tries_60 : decode cL_tries 60 = .ok (.bipush 19, 2) := by decide +kernel
theorem dL_tries_62 : decode cL_tries 62 = .ok (.aload_n 1, 1) := by decide +kernel
theorem dL_tries_63 : decode cL_tries 63 = .ok (.iload 15, 2) := by decide +kernel
theorem dL_tries_65 : decode cL_tries 65 = .ok (.bipush 20, 2) := by decide +kernel
theorem dL_tries_67 : decode cL_tries 67 = .ok (.if_icmp .ge 8, 3) := by decide +kernel
theorem dL_tries_70 : decode cL_tries 70 = .ok (.iload 15, 2) := by decide +kernel
theorem dL_tries_72 : decode cL_tries 72 = .ok (.goto 5, 3) := by decide +kernel
theorem dL_tries_75 : decode cL_tries 75 = .ok (.bipush 19, 2) := by decide +kernel
theorem dL_tries_77 : decode cL_tries 77 = .ok (.iaload, 1) := by decide +kernel
theorem dL_tries_78 : decode cL_tries 78 = .ok (.iastore, 1) := by decide +kernel
theorem dL_tries_79 : decode cL_tries 79 = .ok (.aload 10, 2) := by decide +kernel
theorem dL_tries_81 : decode cL_tries 81 = .ok (.iload 15, 2) := by decide +kernel
theorem dL_tries_83 : decode cL_tries 83 = .ok (.aload_n 2, 1) := by decide +kernel
theorem dL_tries_84 : decode cL_tries 84 = .ok (.iload 15, 2) := by decide +kernel
theorem dL_tries_86 : decode cL_tries 86 = .ok (.iaload, 1) := by decide +kernel
theorem dL_tries_87 : decode cL_tries 87 = .ok (.iastore, 1) := by decide +kernel
theorem dL_tries_88 : decode cL_tries 88 = .ok (.aload 11, 2) := by decide +kernel
theorem dL_tries_90 : decode cL_tries 90 = .ok (.iload 15, 2) := by decide +kernel
theorem dL_tries_92 : decode cL_tries 92 = .ok (.aload_n 3, 1) := by decide +kernel
theorem dL_tries_93 : decode cL_tries 93 = .ok (.iload 15, 2) := by decide +kernel
theorem dL_tries_95 : decode cL_tries 95 = .ok (.iaload, 1) := by decide +kernel
theorem dL_tries_96 : decode cL_tries 96 = .ok (.iastore, 1) := by decide +kernel
theorem dL_tries_97 : decode cL_tries 97 = .ok (.aload 12, 2) := by decide +kernel
theorem dL_tries_99 : decode cL_tries 99 = .ok (.iload 15, 2) := by decide +kernel
theorem dL_tries_101 : decode cL_tries 101 = .ok (.aload 4, 2) := by decide +kernel
theorem dL_tries_103 : decode cL_tries 103 = .ok (.iload 15, 2) := by decide +kernel
theorem dL_tries_105 : decode cL_tries 105 = .ok (.iaload, 1) := by decide +kernel
theorem dL_tries_106 : decode cL_tries 106 = .ok (.iastore, 1) := by decide +kernel
theorem dL_tries_107 : decode cL_tries 107 = .ok (.aload 13, 2) := by decide +kernel
theorem dL_tries_109 : decode cL_tries 109 = .ok (.iload 15, 2) := by decide +kernel
theorem dL_tries_111 : decode cL_tries 111 = .ok (.aload 5, 2) := by decide +kernel
theorem dL_tries_113 : decode cL_tries 113 = .ok (.iload 15, 2) := by decide +kernel
theorem dL_tries_115 : decode cL_tries 115 = .ok (.iaload, 1) := by decide +kernel
theorem dL_tries_116 : decode cL_tries 116 = .ok (.iastore, 1) := by decide +kernel
theorem dL_tries_117 : decode cL_tries 117 = .ok (.aload 14, 2) := by decide +kernel
theorem dL_tries_119 : decode cL_tries 119 = .ok (.iload 15, 2) := by decide +kernel
theorem dL_tries_121 : decode cL_tries 121 = .ok (.aload 6, 2) := by decide +kernel
theorem dL_tries_123 : decode cL_tries 123 = .ok (.iload 15, 2) := by decide +kernel
theorem dL_tries_125 : decode cL_tries 125 = .ok (.iaload, 1) := by decide +kernel
theorem dL_tries_126 : decode cL_tries 126 = .ok (.iastore, 1) := by decide +kernel
theorem dL_tries_127 : decode cL_tries 127 = .ok (.iinc 15 1, 3) := by decide +kernel
theorem dL_tries_130 : decode cL_tries 130 = .ok (.goto (-91), 3) := by decide +kernel
theorem dL_tries_133 : decode cL_tries 133 = .ok (.aload_n 0, 1) := by decide +kernel
theorem dL_tries_134 : decode cL_tries 134 = .ok (.aload 9, 2) := by decide +kernel
theorem dL_tries_136 : decode cL_tries 136 = .ok (.aload 10, 2) := by decide +kernel
theorem dL_tries_138 : decode cL_tries 138 = .ok (.aload 11, 2) := by decide +kernel
theorem dL_tries_140 : decode cL_tries 140 = .ok (.aload 12, 2) := by decide +kernel
theorem dL_tries_142 : decode cL_tries 142 = .ok (.aload 13, 2) := by decide +kernel
theorem dL_tries_144 : decode cL_tries 144 = .ok (.aload 14, 2) := by decide +kernel
theorem dL_tries_146 : decode cL_tries 146 = .ok (.iload 7, 2) := by decide +kernel
theorem dL_tries_148 : decode cL_tries 148 = .ok (.iload 8, 2) := by decide +kernel
theorem dL_tries_150 : decode cL_tries 150 = .ok (.invokestatic 25, 3) := by decide +kernel
theorem dL_tries_153 : decode cL_tries 153 = .ok (.ireturn, 1) := by decide +kernel
theorem dL_truth_0 : decode cL_truth 0 = .ok (.iload_n 1, 1) := by decide +kernel
theorem dL_truth_1 : decode cL_truth 1 = .ok (.istore_n 2, 1) := by decide +kernel
theorem dL_truth_2 : decode cL_truth 2 = .ok (.iconst 0, 1) := by decide +kernel
theorem dL_truth_3 : decode cL_truth 3 = .ok (.istore_n 3, 1) := by decide +kernel
theorem dL_truth_4 : decode cL_truth 4 = .ok (.aload_n 0, 1) := by decide +kernel
theorem dL_truth_5 : decode cL_truth 5 = .ok (.iload_n 2, 1) := by decide +kernel
theorem dL_truth_6 : decode cL_truth 6 = .ok (.iaload, 1) := by decide +kernel
theorem dL_truth_7 : decode cL_truth 7 = .ok (.ifCond .ge 20, 3) := by decide +kernel
theorem dL_truth_10 : decode cL_truth 10 = .ok (.iload_n 3, 1) := by decide +kernel
theorem dL_truth_11 : decode cL_truth 11 = .ok (.iconst 5, 1) := by decide +kernel
theorem dL_truth_12 : decode cL_truth 12 = .ok (.if_icmp .ge 15, 3) := by decide +kernel
theorem dL_truth_15 : decode cL_truth 15 = .ok (.iconst (-1), 1) := by decide +kernel
theorem dL_truth_16 : decode cL_truth 16 = .ok (.aload_n 0, 1) := by decide +kernel
theorem dL_truth_17 : decode cL_truth 17 = .ok (.iload_n 2, 1) := by decide +kernel
theorem dL_truth_18 : decode cL_truth 18 = .ok (.iaload, 1) := by decide +kernel
theorem dL_truth_19 : decode cL_truth 19 = .ok (.isub, 1) := by decide +kernel
theorem dL_truth_20 : decode cL_truth 20 = .ok (.istore_n 2, 1) := by decide +kernel
theorem dL_truth_21 : decode cL_truth 21 = .ok (.iinc 3 1, 3) := by decide +kernel
theorem dL_truth_24 : decode cL_truth 24 = .ok (.goto (-20), 3) := by decide +kernel
theorem dL_truth_27 : decode cL_truth 27 = .ok (.iload_n 3, 1) := by decide +kernel
theorem dL_truth_28 : decode cL_truth 28 = .ok (.iconst 5, 1) := by decide +kernel
theorem dL_truth_29 : decode cL_truth 29 = .ok (.if_icmp .ne 8, 3) := by decide +kernel
theorem dL_truth_32 : decode cL_truth 32 = .ok (.bipush (-2), 2) := by decide +kernel
theorem dL_truth_34 : decode cL_truth 34 = .ok (.goto 16, 3) := by decide +kernel
theorem dL_truth_37 : decode cL_truth 37 = .ok (.aload_n 0, 1) := by decide +kernel
theorem dL_truth_38 : decode cL_truth 38 = .ok (.iload_n 2, 1) := by decide +kernel
theorem dL_truth_39 : decode cL_truth 39 = .ok (.iaload, 1) := by decide +kernel
theorem dL_truth_40 : decode cL_truth 40 = .ok (.ifCond .ne 7, 3) := by decide +kernel
theorem dL_truth_43 : decode cL_truth 43 = .ok (.iconst (-1), 1) := by decide +kernel
theorem dL_truth_44 : decode cL_truth 44 = .ok (.goto 6, 3) := by decide +kernel
theorem dL_truth_47 : decode cL_truth 47 = .ok (.aload_n 0, 1) := by decide +kernel
theorem dL_truth_48 : decode cL_truth 48 = .ok (.iload_n 2, 1) := by decide +kernel
theorem dL_truth_49 : decode cL_truth 49 = .ok (.iaload, 1) := by decide +kernel
theorem dL_truth_50 : decode cL_truth 50 = .ok (.ireturn, 1) := by decide +kernel
set_option maxRecDepth 20000 in
theorem ggL_told_X4_query : GoodIn wsL_told wsX4_query := goodIn_ca (goodIn_ca (goodIn_ca (goodIn_r _ [6, 7, 8, 9, 10, 11, 12, 13, 5, 14, 15, 16, 17, 18, 19, 20, 21, 22, 23, 24, 25, 26, 27, 28, 29, 30, 31, 32, 33, 34, 35, 36, 37, 38, 39, 40, 41, 42, 43, 44, 45, 46, 47, 48, 49, 50, 51, 52, 53, 54, 55, 56, 57, 58, 59, 60, 61, 62, 63, 64, 65, 66, 67, 68, 69, 70, 71, 72, 73, 74, 75, 76, 77, 78, 79, 80, 81, 82, 83, 84, 85, 86, 87, 88, 89, 90, 91, 92, 93, 94, 95, 96, 97, 98, 99, 100, 101, 102, 103, 104, 105, 106, 107, 108, 109, 110, 111, 112, 113, 114, 115, 116, 117, 118, 119, 120, 121, 122, 123, 124, 125, 126, 127, 128, 129, 130, 131, 132, 133, 134, 135, 136, 137, 138, 139, 140, 141, 142, 143, 144, 145, 146, 147, 148, 149, 150, 151, 152, 153, 154, 155, 156, 157, 158, 217, 218, 219, 220, 221, 222, 223, 224, 225, 226, 227, 228, 229, 230, 231, 232, 233, 234, 235, 236, 237, 238, 239, 240, 241, 242, 243, 244, 245, 246, 247, 248, 249, 250] (by decide +kernel) (by decide +kernel)) (goodIn_sub (fun _ h => List.mem_cons_of_mem _ (List.mem_append_left _ (List.mem_append_left _ (List.mem_append_right _ h)))) (by decide +kernel))) (goodIn_sub (fun _ h => List.mem_cons_of_mem _ (List.mem_append_left _ (List.mem_append_right _ h))) (by decide +kernel))) (goodIn_sub (fun _ h => List.mem_cons_of_mem _ (List.mem_append_right _ h)) (by decide +kernel))
set_option maxRecDepth 20000 in
theorem gL_told_X4_query : GoodIn wsL_told (wsV RL 28 RX4 yX4_query wsX4_query) := goodIn_app (goodIn_of _ (by decide +kernel)) ggL_told_X4_query
set_option maxRecDepth 20000 in
theorem ggL_told_X4_wouldAnswer : GoodIn wsL_told wsX4_wouldAnswer := goodIn_ca (goodIn_ca (goodIn_ca (goodIn_r _ [162, 163, 7, 164, 11, 12, 13, 5, 14, 15, 16, 17, 18, 19, 20, 21, 22, 23, 24, 25, 26, 27, 28, 29, 30, 31, 32, 33, 34, 35, 36, 37, 38, 39, 40, 41, 42, 165, 166, 167, 69, 168, 76, 169, 170, 171, 172, 114, 115, 71, 81, 113, 43, 44, 45, 46, 47, 48, 49, 50, 51, 52, 53, 54, 55, 56, 57, 58, 59, 60, 61, 62, 63, 64, 65, 66, 67, 68, 70, 72, 73, 74, 75, 77, 78, 79, 80, 82, 83, 84, 85, 86, 87, 88, 89, 90, 91, 92, 93, 94, 95, 96, 97, 98, 99, 100, 101, 102, 103, 104, 105, 106, 107, 108, 109, 110, 111, 112, 116, 117, 118, 119, 120, 121, 122, 123, 124, 125, 126, 127, 128, 129, 130, 131, 132, 133, 134, 135, 221, 222, 223, 224, 225, 226, 227, 228, 229, 230, 231, 232, 233, 217, 218, 219, 220, 245, 246, 247, 248, 249, 250, 234, 235, 236, 237, 238, 239, 240, 241, 242, 243, 244] (by decide +kernel) (by decide +kernel)) (goodIn_sub (fun _ h => List.mem_cons_of_mem _ (List.mem_append_left _ (List.mem_append_left _ (List.mem_append_right _ h)))) (by decide +kernel))) (goodIn_sub (fun _ h => List.mem_cons_of_mem _ (List.mem_append_left _ (List.mem_append_right _ h))) (by decide +kernel))) (goodIn_sub (fun _ h => List.mem_cons_of_mem _ (List.mem_append_right _ h)) (by decide +kernel))
set_option maxRecDepth 20000 in
theorem gL_told_X4_wouldAnswer : GoodIn wsL_told (wsV RL 34 RX4 yX4_wouldAnswer wsX4_wouldAnswer) := goodIn_app (goodIn_of _ (by decide +kernel)) ggL_told_X4_wouldAnswer
set_option maxRecDepth 20000 in
theorem ggL_told_X4_addSite : GoodIn wsL_told wsX4_addSite := goodIn_ca (goodIn_ca (goodIn_r _ [176, 15, 16, 177, 31, 178, 179, 36, 22, 23, 5, 24, 25, 26, 180, 181, 182, 183, 184, 185, 186, 187, 69, 188, 189, 190, 38, 191, 192, 193, 194, 195, 76, 114, 115, 71, 81, 196, 197, 198, 199, 221, 222, 223, 224, 225, 226, 227, 228, 229, 230, 231, 232, 233, 217, 218, 219, 220, 245, 246, 247, 248, 249, 250] (by decide +kernel) (by decide +kernel)) (goodIn_sub (fun _ h => List.mem_cons_of_mem _ (List.mem_append_left _ (List.mem_append_left _ (List.mem_append_right _ h)))) (by decide +kernel))) (goodIn_sub (fun _ h => List.mem_cons_of_mem _ (List.mem_append_right _ h)) (by decide +kernel))
set_option maxRecDepth 20000 in
theorem gL_told_X4_addSite : GoodIn wsL_told (wsV RL 37 RX4 yX4_addSite wsX4_addSite) := goodIn_app (goodIn_of _ (by decide +kernel)) ggL_told_X4_addSite
set_option maxRecDepth 20000 in
theorem ggL_told_X4_left : GoodIn wsL_told wsX4_left := goodIn_ca (goodIn_ca (goodIn_r _ [203, 15, 16, 62, 204, 205, 206, 5, 207, 7, 208, 209, 210, 211, 20, 21, 31, 17, 18, 19, 212, 73, 74, 69, 75, 76, 213, 214, 215, 216, 71, 72, 221, 222, 223, 224, 225, 226, 227, 228, 229, 230, 231, 232, 233, 217, 218, 219, 220, 245, 246, 247, 248, 249, 250] (by decide +kernel) (by decide +kernel)) (goodIn_sub (fun _ h => List.mem_cons_of_mem _ (List.mem_append_left _ (List.mem_append_left _ (List.mem_append_right _ h)))) (by decide +kernel))) (goodIn_sub (fun _ h => List.mem_cons_of_mem _ (List.mem_append_left _ (List.mem_append_right _ h))) (by decide +kernel))
set_option maxRecDepth 20000 in
theorem gL_told_X4_left : GoodIn wsL_told (wsV RL 41 RX4 yX4_left wsX4_left) := goodIn_app (goodIn_of _ (by decide +kernel)) ggL_told_X4_left
theorem dL_told_0 : decode cL_told 0 = .ok (.iload_n 1, 1) := by decide +kernel
theorem dL_told_1 : decode cL_told 1 = .ok (.ifCond .ne 12, 3) := by decide +kernel
theorem dL_told_4 : decode cL_told 4 = .ok (.aload_n 0, 1) := by decide +kernel
theorem dL_told_5 : decode cL_told 5 = .ok (.iload_n 2, 1) := by decide +kernel
theorem dL_told_6 : decode cL_told 6 = .ok (.iload_n 3, 1) := by decide +kernel
theorem dL_told_7 : decode cL_told 7 = .ok (.invokevirtual 28, 3) := by decide +kernel
theorem dL_told_10 : decode cL_told 10 = .ok (.goto 36, 3) := by decide +kernel
theorem dL_told_13 : decode cL_told 13 = .ok (.iload_n 1, 1) := by decide +kernel
theorem dL_told_14 : decode cL_told 14 = .ok (.iconst 1, 1) := by decide +kernel
theorem dL_told_15 : decode cL_told 15 = .ok (.if_icmp .ne 12, 3) := by decide +kernel
theorem dL_told_18 : decode cL_told 18 = .ok (.aload_n 0, 1) := by decide +kernel
theorem dL_told_19 : decode cL_told 19 = .ok (.iload_n 2, 1) := by decide +kernel
theorem dL_told_20 : decode cL_told 20 = .ok (.iload_n 3, 1) := by decide +kernel
theorem dL_told_21 : decode cL_told 21 = .ok (.invokevirtual 34, 3) := by decide +kernel
theorem dL_told_24 : decode cL_told 24 = .ok (.goto 22, 3) := by decide +kernel
theorem dL_told_27 : decode cL_told 27 = .ok (.iload_n 1, 1) := by decide +kernel
theorem dL_told_28 : decode cL_told 28 = .ok (.iconst 2, 1) := by decide +kernel
theorem dL_told_29 : decode cL_told 29 = .ok (.if_icmp .ne 11, 3) := by decide +kernel
theorem dL_told_32 : decode cL_told 32 = .ok (.aload_n 0, 1) := by decide +kernel
theorem dL_told_33 : decode cL_told 33 = .ok (.iload_n 2, 1) := by decide +kernel
theorem dL_told_34 : decode cL_told 34 = .ok (.invokevirtual 37, 3) := by decide +kernel
theorem dL_told_37 : decode cL_told 37 = .ok (.goto 9, 3) := by decide +kernel
theorem dL_told_40 : decode cL_told 40 = .ok (.aload_n 0, 1) := by decide +kernel
theorem dL_told_41 : decode cL_told 41 = .ok (.iload_n 2, 1) := by decide +kernel
theorem dL_told_42 : decode cL_told 42 = .ok (.iload_n 3, 1) := by decide +kernel
theorem dL_told_43 : decode cL_told 43 = .ok (.invokevirtual 41, 3) := by decide +kernel
theorem dL_told_46 : decode cL_told 46 = .ok (.ireturn, 1) := by decide +kernel
theorem dL_told_47 : decode cL_told 47 = .ok (.astore 4, 2) := by decide +kernel
theorem dL_told_49 : decode cL_told 49 = .ok (.bipush (-13), 2) := by decide +kernel
theorem dL_told_51 : decode cL_told 51 = .ok (.ireturn, 1) := by decide +kernel
set_option maxRecDepth 20000 in
theorem ggL_isFleet_X4_time : GoodIn wsL_isFleet wsX4_time := goodIn_r _ [5, 6, 140, 141, 142, 143, 144, 145, 146, 147, 148, 149, 150, 151, 152] (by decide +kernel) (by decide +kernel)
set_option maxRecDepth 20000 in
theorem gL_isFleet_X4_time : GoodIn wsL_isFleet (wsV RL 46 RX4 yX4_time wsX4_time) := goodIn_app (goodIn_of _ (by decide +kernel)) ggL_isFleet_X4_time
set_option maxRecDepth 20000 in
theorem ggL_isFleet_X4_queries : GoodIn wsL_isFleet wsX4_queries := goodIn_r _ [10, 11, 140, 141, 142, 143, 144, 145, 146, 147, 148, 149, 150, 151, 152] (by decide +kernel) (by decide +kernel)
set_option maxRecDepth 20000 in
theorem gL_isFleet_X4_queries : GoodIn wsL_isFleet (wsV RL 50 RX4 yX4_queries wsX4_queries) := goodIn_app (goodIn_of _ (by decide +kernel)) ggL_isFleet_X4_queries
set_option maxRecDepth 20000 in
theorem ggL_isFleet_X4_fetches : GoodIn wsL_isFleet wsX4_fetches := goodIn_r _ [15, 16, 140, 141, 142, 143, 144, 145, 146, 147, 148, 149, 150, 151, 152] (by decide +kernel) (by decide +kernel)
set_option maxRecDepth 20000 in
theorem gL_isFleet_X4_fetches : GoodIn wsL_isFleet (wsV RL 53 RX4 yX4_fetches wsX4_fetches) := goodIn_app (goodIn_of _ (by decide +kernel)) ggL_isFleet_X4_fetches
set_option maxRecDepth 20000 in
theorem ggL_isFleet_X4_prefetches : GoodIn wsL_isFleet wsX4_prefetches := goodIn_r _ [20, 21, 140, 141, 142, 143, 144, 145, 146, 147, 148, 149, 150, 151, 152] (by decide +kernel) (by decide +kernel)
set_option maxRecDepth 20000 in
theorem gL_isFleet_X4_prefetches : GoodIn wsL_isFleet (wsV RL 55 RX4 yX4_prefetches wsX4_prefetches) := goodIn_app (goodIn_of _ (by decide +kernel)) ggL_isFleet_X4_prefetches
set_option maxRecDepth 20000 in
theorem ggL_isFleet_X4_staleAnswers : GoodIn wsL_isFleet wsX4_staleAnswers := goodIn_r _ [25, 26, 140, 141, 142, 143, 144, 145, 146, 147, 148, 149, 150, 151, 152] (by decide +kernel) (by decide +kernel)
set_option maxRecDepth 20000 in
theorem gL_isFleet_X4_staleAnswers : GoodIn wsL_isFleet (wsV RL 58 RX4 yX4_staleAnswers wsX4_staleAnswers) := goodIn_app (goodIn_of _ (by decide +kernel)) ggL_isFleet_X4_staleAnswers
set_option maxRecDepth 20000 in
theorem ggL_isFleet_X4_failures : GoodIn wsL_isFleet wsX4_failures := goodIn_r _ [30, 31, 140, 141, 142, 143, 144, 145, 146, 147, 148, 149, 150, 151, 152] (by decide +kernel) (by decide +kernel)
set_option maxRecDepth 20000 in
theorem gL_isFleet_X4_failures : GoodIn wsL_isFleet (wsV RL 61 RX4 yX4_failures wsX4_failures) := goodIn_app (goodIn_of _ (by decide +kernel)) ggL_isFleet_X4_failures
set_option maxRecDepth 20000 in
theorem ggL_isFleet_X4_lastSite : GoodIn wsL_isFleet wsX4_lastSite := goodIn_r _ [35, 36, 140, 141, 142, 143, 144, 145, 146, 147, 148, 149, 150, 151, 152] (by decide +kernel) (by decide +kernel)
set_option maxRecDepth 20000 in
theorem gL_isFleet_X4_lastSite : GoodIn wsL_isFleet (wsV RL 64 RX4 yX4_lastSite wsX4_lastSite) := goodIn_app (goodIn_of _ (by decide +kernel)) ggL_isFleet_X4_lastSite
set_option maxRecDepth 20000 in
theorem ggL_isFleet_X4_lastWasStale : GoodIn wsL_isFleet wsX4_lastWasStale := goodIn_r _ [40, 41, 42, 140, 141, 142, 143, 144, 145, 146, 147, 148, 149, 150, 151, 152, 153, 154, 155, 156, 157, 158] (by decide +kernel) (by decide +kernel)
set_option maxRecDepth 20000 in
theorem gL_isFleet_X4_lastWasStale : GoodIn wsL_isFleet (wsV RL 67 RX4 yX4_lastWasStale wsX4_lastWasStale) := goodIn_app (goodIn_of _ (by decide +kernel)) ggL_isFleet_X4_lastWasStale
set_option maxRecDepth 20000 in
theorem ggL_isFleet_X4_lastLookUps : GoodIn wsL_isFleet wsX4_lastLookUps := goodIn_r _ [46, 41, 47, 140, 141, 142, 143, 144, 145, 146, 147, 148, 149, 150, 151, 152, 153, 154, 155, 156, 157, 158] (by decide +kernel) (by decide +kernel)
set_option maxRecDepth 20000 in
theorem gL_isFleet_X4_lastLookUps : GoodIn wsL_isFleet (wsV RL 71 RX4 yX4_lastLookUps wsX4_lastLookUps) := goodIn_app (goodIn_of _ (by decide +kernel)) ggL_isFleet_X4_lastLookUps
set_option maxRecDepth 20000 in
theorem ggL_isFleet_X4_lastFetches : GoodIn wsL_isFleet wsX4_lastFetches := goodIn_r _ [51, 41, 52, 140, 141, 142, 143, 144, 145, 146, 147, 148, 149, 150, 151, 152, 153, 154, 155, 156, 157, 158] (by decide +kernel) (by decide +kernel)
set_option maxRecDepth 20000 in
theorem gL_isFleet_X4_lastFetches : GoodIn wsL_isFleet (wsV RL 74 RX4 yX4_lastFetches wsX4_lastFetches) := goodIn_app (goodIn_of _ (by decide +kernel)) ggL_isFleet_X4_lastFetches
set_option maxRecDepth 20000 in
theorem ggL_isFleet_X4_truth : GoodIn wsL_isFleet wsX4_truth := goodIn_ca (goodIn_r _ [56, 57, 58, 59, 4, 60, 61, 62, 63, 64, 65, 66, 67, 68, 69, 70, 71, 72, 73, 140, 141, 142, 143, 144, 145, 146, 147, 148, 149, 150, 151, 152, 159, 160, 161, 162, 163] (by decide +kernel) (by decide +kernel)) (goodIn_sub (fun _ h => List.mem_cons_of_mem _ (List.mem_append_left _ (List.mem_append_right _ h))) (by decide +kernel))
set_option maxRecDepth 20000 in
theorem gL_isFleet_X4_truth : GoodIn wsL_isFleet (wsV RL 77 RX4 yX4_truth wsX4_truth) := goodIn_app (goodIn_of _ (by decide +kernel)) ggL_isFleet_X4_truth
set_option maxRecDepth 20000 in
theorem ggL_isFleet_L_truth : GoodIn wsL_isFleet wsL_truth := goodIn_r _ [77] (by decide +kernel) (by decide +kernel)
set_option maxRecDepth 20000 in
theorem gL_isFleet_L_truth : GoodIn wsL_isFleet (va_wsS RL 80 yL_truth wsL_truth) := goodIn_app (goodIn_of _ (by decide +kernel)) ggL_isFleet_L_truth
set_option maxRecDepth 20000 in
theorem ggL_isFleet_L_slot : GoodIn wsL_isFleet wsL_slot := goodIn_r _ [80] (by decide +kernel) (by decide +kernel)
set_option maxRecDepth 20000 in
theorem gL_isFleet_L_slot : GoodIn wsL_isFleet (va_wsS RL 7 yL_slot wsL_slot) := goodIn_app (goodIn_of _ (by decide +kernel)) ggL_isFleet_L_slot
set_option maxRecDepth 20000 in
theorem ggL_isFleet_X4_cachedKind : GoodIn wsL_isFleet wsX4_cachedKind := goodIn_ca (goodIn_r _ [84, 85, 86, 87, 4, 88, 89, 90, 91, 92, 93, 61, 62, 94, 58, 59, 60, 95, 96, 97, 98, 99, 100, 101, 102, 103, 104, 164, 165, 166, 167, 140, 141, 142, 143, 144, 145, 146, 147, 148, 149, 150, 151, 152, 168, 169, 170, 171, 172, 173] (by decide +kernel) (by decide +kernel)) (goodIn_sub (fun _ h => List.mem_cons_of_mem _ (List.mem_append_left _ (List.mem_append_right _ h))) (by decide +kernel))
set_option maxRecDepth 20000 in
theorem gL_isFleet_X4_cachedKind : GoodIn wsL_isFleet (wsV RL 82 RX4 yX4_cachedKind wsX4_cachedKind) := goodIn_app (goodIn_of _ (by decide +kernel)) ggL_isFleet_X4_cachedKind
set_option maxRecDepth 20000 in
theorem ggL_isFleet_X4_cachedValue : GoodIn wsL_isFleet wsX4_cachedValue := goodIn_ca (goodIn_r _ [108, 85, 86, 87, 4, 88, 89, 90, 91, 92, 93, 61, 62, 94, 58, 59, 60, 109, 110, 111, 98, 112, 113, 101, 102, 103, 104, 100, 164, 165, 166, 167, 140, 141, 142, 143, 144, 145, 146, 147, 148, 149, 150, 151, 152, 168, 169, 170, 171, 172, 173] (by decide +kernel) (by decide +kernel)) (goodIn_sub (fun _ h => List.mem_cons_of_mem _ (List.mem_append_left _ (List.mem_append_right _ h))) (by decide +kernel))
set_option maxRecDepth 20000 in
theorem gL_isFleet_X4_cachedValue : GoodIn wsL_isFleet (wsV RL 85 RX4 yX4_cachedValue wsX4_cachedValue) := goodIn_app (goodIn_of _ (by decide +kernel)) ggL_isFleet_X4_cachedValue
set_option maxRecDepth 20000 in
theorem ggL_isFleet_X4_hitsOf : GoodIn wsL_isFleet wsX4_hitsOf := goodIn_ca (goodIn_r _ [117, 85, 86, 87, 4, 88, 89, 90, 91, 92, 93, 61, 62, 94, 58, 59, 60, 118, 119, 120, 98, 121, 122, 101, 102, 103, 104, 100, 164, 165, 166, 167, 140, 141, 142, 143, 144, 145, 146, 147, 148, 149, 150, 151, 152, 168, 169, 170, 171, 172, 173] (by decide +kernel) (by decide +kernel)) (goodIn_sub (fun _ h => List.mem_cons_of_mem _ (List.mem_append_left _ (List.mem_append_right _ h))) (by decide +kernel))
set_option maxRecDepth 20000 in
theorem gL_isFleet_X4_hitsOf : GoodIn wsL_isFleet (wsV RL 88 RX4 yX4_hitsOf wsX4_hitsOf) := goodIn_app (goodIn_of _ (by decide +kernel)) ggL_isFleet_X4_hitsOf
set_option maxRecDepth 20000 in
theorem ggL_isFleet_X4_left : GoodIn wsL_isFleet wsX4_left := goodIn_ca (goodIn_ca (goodIn_r _ [126, 127, 128, 6, 85, 86, 87, 4, 88, 89, 90, 91, 92, 93, 61, 62, 94, 58, 59, 60, 129, 102, 103, 98, 104, 100, 130, 131, 132, 133, 134, 101, 140, 141, 142, 143, 144, 145, 146, 147, 148, 149, 150, 151, 152, 164, 165, 166, 167, 168, 169, 170, 171, 172, 173] (by decide +kernel) (by decide +kernel)) (goodIn_sub (fun _ h => List.mem_cons_of_mem _ (List.mem_append_right _ h)) (by decide +kernel))) (goodIn_sub (fun _ h => List.mem_cons_of_mem _ (List.mem_append_left _ (List.mem_append_right _ h))) (by decide +kernel))
set_option maxRecDepth 20000 in
theorem gL_isFleet_X4_left : GoodIn wsL_isFleet (wsV RL 41 RX4 yX4_left wsX4_left) := goodIn_app (goodIn_of _ (by decide +kernel)) ggL_isFleet_X4_left
set_option maxRecDepth 20000 in
theorem ggL_isFleet_X4_entries : GoodIn wsL_isFleet wsX4_entries := goodIn_ca (goodIn_r _ [138, 89, 139, 90, 91, 92, 4, 93, 61, 62, 94, 164, 165, 166, 167, 168, 169, 170, 171, 172, 173, 140, 141, 142, 143, 144, 145, 146, 147, 148, 149, 150, 151, 152] (by decide +kernel) (by decide +kernel)) (goodIn_sub (fun _ h => List.mem_cons_of_mem _ (List.mem_append_left _ (List.mem_append_right _ h))) (by decide +kernel))
set_option maxRecDepth 20000 in
theorem gL_isFleet_X4_entries : GoodIn wsL_isFleet (wsV RL 91 RX4 yX4_entries wsX4_entries) := goodIn_app (goodIn_of _ (by decide +kernel)) ggL_isFleet_X4_entries
theorem dL_isFleet_0 : decode cL_isFleet 0 = .ok (.aload_n 0, 1) := by decide +kernel
theorem dL_isFleet_1 : decode cL_isFleet 1 = .ok (.invokevirtual 46, 3) := by decide +kernel
theorem dL_isFleet_4 : decode cL_isFleet 4 = .ok (.aload_n 2, 1) := by decide +kernel
theorem dL_isFleet_5 : decode cL_isFleet 5 = .ok (.iconst 0, 1) := by decide +kernel
theorem dL_isFleet_6 : decode cL_isFleet 6 = .ok (.iaload, 1) := by decide +kernel
theorem dL_isFleet_7 : decode cL_isFleet 7 = .ok (.if_icmp .ne 115, 3) := by decide +kernel
theorem dL_isFleet_10 : decode cL_isFleet 10 = .ok (.aload_n 0, 1) := by decide +kernel
theorem dL_isFleet_11 : decode cL_isFleet 11 = .ok (.invokevirtual 50, 3) := by decide +kernel
theorem dL_isFleet_14 : decode cL_isFleet 14 = .ok (.aload_n 2, 1) := by decide +kernel
theorem dL_isFleet_15 : decode cL_isFleet 15 = .ok (.bipush 10, 2) := by decide +kernel
theorem dL_isFleet_17 : decode cL_isFleet 17 = .ok (.iaload, 1) := by decide +kernel
theorem dL_isFleet_18 : decode cL_isFleet 18 = .ok (.if_icmp .ne 104, 3) := by decide +kernel
theorem dL_isFleet_21 : decode cL_isFleet 21 = .ok (.aload_n 0, 1) := by decide +kernel
theorem dL_isFleet_22 : decode cL_isFleet 22 = .ok (.invokevirtual 53, 3) := by decide +kernel
theorem dL_isFleet_25 : decode cL_isFleet 25 = .ok (.aload_n 2, 1) := by decide +kernel
theorem dL_isFleet_26 : decode cL_isFleet 26 = .ok (.bipush 11, 2) := by decide +kernel
theorem dL_isFleet_28 : decode cL_isFleet 28 = .ok (.iaload, 1) := by decide +kernel
theorem dL_isFleet_29 : decode cL_isFleet 29 = .ok (.if_icmp .ne 93, 3) := by decide +kernel
theorem dL_isFleet_32 : decode cL_isFleet 32 = .ok (.aload_n 0, 1) := by decide +kernel
theorem dL_isFleet_33 : decode cL_isFleet 33 = .ok (.invokevirtual 55, 3) := by decide +kernel
theorem dL_isFleet_36 : decode cL_isFleet 36 = .ok (.aload_n 2, 1) := by decide +kernel
theorem dL_isFleet_37 : decode cL_isFleet 37 = .ok (.bipush 12, 2) := by decide +kernel
theorem dL_isFleet_39 : decode cL_isFleet 39 = .ok (.iaload, 1) := by decide +kernel
theorem dL_isFleet_40 : decode cL_isFleet 40 = .ok (.if_icmp .ne 82, 3) := by decide +kernel
theorem dL_isFleet_43 : decode cL_isFleet 43 = .ok (.aload_n 0, 1) := by decide +kernel
theorem dL_isFleet_44 : decode cL_isFleet 44 = .ok (.invokevirtual 58, 3) := by decide +kernel
theorem dL_isFleet_47 : decode cL_isFleet 47 = .ok (.aload_n 2, 1) := by decide +kernel
theorem dL_isFleet_48 : decode cL_isFleet 48 = .ok (.bipush 13, 2) := by decide +kernel
theorem dL_isFleet_50 : decode cL_isFleet 50 = .ok (.iaload, 1) := by decide +kernel
theorem dL_isFleet_51 : decode cL_isFleet 51 = .ok (.if_icmp .ne 71, 3) := by decide +kernel
theorem dL_isFleet_54 : decode cL_isFleet 54 = .ok (.aload_n 0, 1) := by decide +kernel
theorem dL_isFleet_55 : decode cL_isFleet 55 = .ok (.invokevirtual 61, 3) := by decide +kernel
theorem dL_isFleet_58 : decode cL_isFleet 58 = .ok (.aload_n 2, 1) := by decide +kernel
theorem dL_isFleet_59 : decode cL_isFleet 59 = .ok (.bipush 14, 2) := by decide +kernel
theorem dL_isFleet_61 : decode cL_isFleet 61 = .ok (.iaload, 1) := by decide +kernel
theorem dL_isFleet_62 : decode cL_isFleet 62 = .ok (.if_icmp .ne 60, 3) := by decide +kernel
theorem dL_isFleet_65 : decode cL_isFleet 65 = .ok (.aload_n 0, 1) := by decide +kernel
theorem dL_isFleet_66 : decode cL_isFleet 66 = .ok (.invokevirtual 64, 3) := by decide +kernel
theorem dL_isFleet_69 : decode cL_isFleet 69 = .ok (.aload_n 2, 1) := by decide +kernel
theorem dL_isFleet_70 : decode cL_isFleet 70 = .ok (.bipush 15, 2) := by decide +kernel
theorem dL_isFleet_72 : decode cL_isFleet 72 = .ok (.iaload, 1) := by decide +kernel
theorem dL_isFleet_73 : decode cL_isFleet 73 = .ok (.if_icmp .ne 49, 3) := by decide +kernel
theorem dL_isFleet_76 : decode cL_isFleet 76 = .ok (.aload_n 0, 1) := by decide +kernel
theorem dL_isFleet_77 : decode cL_isFleet 77 = .ok (.invokevirtual 67, 3) := by decide +kernel
theorem dL_isFleet_80 : decode cL_isFleet 80 = .ok (.aload_n 2, 1) := by decide +kernel
theorem dL_isFleet_81 : decode cL_isFleet 81 = .ok (.bipush 16, 2) := by decide +kernel
theorem dL_isFleet_83 : decode cL_isFleet 83 = .ok (.iaload, 1) := by decide +kernel
theorem dL_isFleet_84 : decode cL_isFleet 84 = .ok (.iconst 1, 1) := by decide +kernel
theorem dL_isFleet_85 : decode cL_isFleet 85 = .ok (.if_icmp .ne 7, 3) := by decide +kernel
theorem dL_isFleet_88 : decode cL_isFleet 88 = .ok (.iconst 1, 1) := by decide +kernel
theorem dL_isFleet_89 : decode cL_isFleet 89 = .ok (.goto 4, 3) := by decide +kernel
theorem dL_isFleet_92 : decode cL_isFleet 92 = .ok (.iconst 0, 1) := by decide +kernel
theorem dL_isFleet_93 : decode cL_isFleet 93 = .ok (.if_icmp .ne 29, 3) := by decide +kernel
theorem dL_isFleet_96 : decode cL_isFleet 96 = .ok (.aload_n 0, 1) := by decide +kernel
theorem dL_isFleet_97 : decode cL_isFleet 97 = .ok (.invokevirtual 71, 3) := by decide +kernel
theorem dL_isFleet_100 : decode cL_isFleet 100 = .ok (.aload_n 2, 1) := by decide +kernel
theorem dL_isFleet_101 : decode cL_isFleet 101 = .ok (.bipush 17, 2) := by decide +kernel
theorem dL_isFleet_103 : decode cL_isFleet 103 = .ok (.iaload, 1) := by decide +kernel
theorem dL_isFleet_104 : decode cL_isFleet 104 = .ok (.if_icmp .ne 18, 3) := by decide +kernel
theorem dL_isFleet_107 : decode cL_isFleet 107 = .ok (.aload_n 0, 1) := by decide +kernel
theorem dL_isFleet_108 : decode cL_isFleet 108 = .ok (.invokevirtual 74, 3) := by decide +kernel
theorem dL_isFleet_111 : decode cL_isFleet 111 = .ok (.aload_n 2, 1) := by decide +kernel
theorem dL_isFleet_112 : decode cL_isFleet 112 = .ok (.bipush 18, 2) := by decide +kernel
theorem dL_isFleet_114 : decode cL_isFleet 114 = .ok (.iaload, 1) := by decide +kernel
theorem dL_isFleet_115 : decode cL_isFleet 115 = .ok (.if_icmp .ne 7, 3) := by decide +kernel
theorem dL_isFleet_118 : decode cL_isFleet 118 = .ok (.iconst 1, 1) := by decide +kernel
theorem dL_isFleet_119 : decode cL_isFleet 119 = .ok (.goto 4, 3) := by decide +kernel
theorem dL_isFleet_122 : decode cL_isFleet 122 = .ok (.iconst 0, 1) := by decide +kernel
theorem dL_isFleet_123 : decode cL_isFleet 123 = .ok (.istore 7, 2) := by decide +kernel
theorem dL_isFleet_125 : decode cL_isFleet 125 = .ok (.iconst 0, 1) := by decide +kernel
theorem dL_isFleet_126 : decode cL_isFleet 126 = .ok (.istore 8, 2) := by decide +kernel
theorem dL_isFleet_128 : decode cL_isFleet 128 = .ok (.iload 8, 2) := by decide +kernel
theorem dL_isFleet_130 : decode cL_isFleet 130 = .ok (.bipush 16, 2) := by decide +kernel
theorem dL_isFleet_132 : decode cL_isFleet 132 = .ok (.if_icmp .ge 36, 3) := by decide +kernel
theorem dL_isFleet_135 : decode cL_isFleet 135 = .ok (.iload 7, 2) := by decide +kernel
theorem dL_isFleet_137 : decode cL_isFleet 137 = .ok (.ifCond .eq 31, 3) := by decide +kernel
theorem dL_isFleet_140 : decode cL_isFleet 140 = .ok (.aload_n 0, 1) := by decide +kernel
theorem dL_isFleet_141 : decode cL_isFleet 141 = .ok (.iload 8, 2) := by decide +kernel
theorem dL_isFleet_143 : decode cL_isFleet 143 = .ok (.invokevirtual 77, 3) := by decide +kernel
theorem dL_isFleet_146 : decode cL_isFleet 146 = .ok (.aload_n 1, 1) := by decide +kernel
theorem dL_isFleet_147 : decode cL_isFleet 147 = .ok (.iload 8, 2) := by decide +kernel
theorem dL_isFleet_149 : decode cL_isFleet 149 = .ok (.invokestatic 80, 3) := by decide +kernel
theorem dL_isFleet_152 : decode cL_isFleet 152 = .ok (.if_icmp .ne 7, 3) := by decide +kernel
theorem dL_isFleet_155 : decode cL_isFleet 155 = .ok (.iconst 1, 1) := by decide +kernel
theorem dL_isFleet_156 : decode cL_isFleet 156 = .ok (.goto 4, 3) := by decide +kernel
theorem dL_isFleet_159 : decode cL_isFleet 159 = .ok (.iconst 0, 1) := by decide +kernel
theorem dL_isFleet_160 : decode cL_isFleet 160 = .ok (.istore 7, 2) := by decide +kernel
theorem dL_isFleet_162 : decode cL_isFleet 162 = .ok (.iinc 8 1, 3) := by decide +kernel
theorem dL_isFleet_165 : decode cL_isFleet 165 = .ok (.goto (-37), 3) := by decide +kernel
theorem dL_isFleet_168 : decode cL_isFleet 168 = .ok (.iconst 0, 1) := by decide +kernel
theorem dL_isFleet_169 : decode cL_isFleet 169 = .ok (.istore 8, 2) := by decide +kernel
theorem dL_isFleet_171 : decode cL_isFleet 171 = .ok (.iload 8, 2) := by decide +kernel
theorem dL_isFleet_173 : decode cL_isFleet 173 = .ok (.aload_n 2, 1) := by decide +kernel
theorem dL_isFleet_174 : decode cL_isFleet 174 = .ok (.iconst 3, 1) := by decide +kernel
theorem dL_isFleet_175 : decode cL_isFleet 175 = .ok (.iaload, 1) := by decide +kernel
theorem dL_isFleet_176 : decode cL_isFleet 176 = .ok (.if_icmp .ge 240, 3) := by decide +kernel
theorem dL_isFleet_179 : decode cL_isFleet 179 = .ok (.iload 7, 2) := by decide +kernel
theorem dL_isFleet_181 : decode cL_isFleet 181 = .ok (.ifCond .eq 235, 3) := by decide +kernel
theorem dL_isFleet_184 : decode cL_isFleet 184 = .ok (.iconst 0, 1) := by decide +kernel
theorem dL_isFleet_185 : decode cL_isFleet 185 = .ok (.istore 9, 2) := by decide +kernel
theorem dL_isFleet_187 : decode cL_isFleet 187 = .ok (.iconst 0, 1) := by decide +kernel
theorem dL_isFleet_188 : decode cL_isFleet 188 = .ok (.istore 10, 2) := by decide +kernel
theorem dL_isFleet_190 : decode cL_isFleet 190 = .ok (.iload 10, 2) := by decide +kernel
theorem dL_isFleet_192 : decode cL_isFleet 192 = .ok (.bipush 16, 2) := by decide +kernel
theorem dL_isFleet_194 : decode cL_isFleet 194 = .ok (.if_icmp .ge 193, 3) := by decide +kernel
theorem dL_isFleet_197 : decode cL_isFleet 197 = .ok (.iload 7, 2) := by decide +kernel
theorem dL_isFleet_199 : decode cL_isFleet 199 = .ok (.ifCond .eq 188, 3) := by decide +kernel
theorem dL_isFleet_202 : decode cL_isFleet 202 = .ok (.aload_n 3, 1) := by decide +kernel
theorem dL_isFleet_203 : decode cL_isFleet 203 = .ok (.iload 8, 2) := by decide +kernel
theorem dL_isFleet_205 : decode cL_isFleet 205 = .ok (.iload 10, 2) := by decide +kernel
theorem dL_isFleet_207 : decode cL_isFleet 207 = .ok (.invokestatic 7, 3) := by decide +kernel
theorem dL_isFleet_210 : decode cL_isFleet 210 = .ok (.istore 11, 2) := by decide +kernel
theorem dL_isFleet_212 : decode cL_isFleet 212 = .ok (.iload 9, 2) := by decide +kernel
theorem dL_isFleet_214 : decode cL_isFleet 214 = .ok (.iload 11, 2) := by decide +kernel
theorem dL_isFleet_216 : decode cL_isFleet 216 = .ok (.ifCond .ge 7, 3) := by decide +kernel
theorem dL_isFleet_219 : decode cL_isFleet 219 = .ok (.iconst 0, 1) := by decide +kernel
theorem dL_isFleet_220 : decode cL_isFleet 220 = .ok (.goto 4, 3) := by decide +kernel
theorem dL_isFleet_223 : decode cL_isFleet 223 = .ok (.iconst 1, 1) := by decide +kernel
theorem dL_isFleet_224 : decode cL_isFleet 224 = .ok (.iadd, 1) := by decide +kernel
theorem dL_isFleet_225 : decode cL_isFleet 225 = .ok (.istore 9, 2) := by decide +kernel
theorem dL_isFleet_227 : decode cL_isFleet 227 = .ok (.aload_n 0, 1) := by decide +kernel
theorem dL_isFleet_228 : decode cL_isFleet 228 = .ok (.iload 8, 2) := by decide +kernel
theorem dL_isFleet_230 : decode cL_isFleet 230 = .ok (.iload 10, 2) := by decide +kernel
theorem dL_isFleet_232 : decode cL_isFleet 232 = .ok (.invokevirtual 82, 3) := by decide +kernel
theorem dL_isFleet_235 : decode cL_isFleet 235 = .ok (.iload 11, 2) := by decide +kernel
theorem dL_isFleet_237 : decode cL_isFleet 237 = .ok (.ifCond .ge 7, 3) := by decide +kernel
theorem dL_isFleet_240 : decode cL_isFleet 240 = .ok (.iconst 3, 1) := by decide +kernel
theorem dL_isFleet_241 : decode cL_isFleet 241 = .ok (.goto 28, 3) := by decide +kernel
theorem dL_isFleet_244 : decode cL_isFleet 244 = .ok (.aload 4, 2) := by decide +kernel
theorem dL_isFleet_246 : decode cL_isFleet 246 = .ok (.iload 11, 2) := by decide +kernel
theorem dL_isFleet_248 : decode cL_isFleet 248 = .ok (.iaload, 1) := by decide +kernel
theorem dL_isFleet_249 : decode cL_isFleet 249 = .ok (.ifCond .le 7, 3) := by decide +kernel
theorem dL_isFleet_252 : decode cL_isFleet 252 = .ok (.iconst 0, 1) := by decide +kernel
theorem dL_isFleet_253 : decode cL_isFleet 253 = .ok (.goto 16, 3) := by decide +kernel
theorem dL_isFleet_256 : decode cL_isFleet 256 = .ok (.aload 4, 2) := by decide +kernel
theorem dL_isFleet_258 : decode cL_isFleet 258 = .ok (.iload 11, 2) := by decide +kernel
theorem dL_isFleet_260 : decode cL_isFleet 260 = .ok (.iaload, 1) := by decide +kernel
theorem dL_isFleet_261 : decode cL_isFleet 261 = .ok (.ifCond .ge 7, 3) := by decide +kernel
theorem dL_isFleet_264 : decode cL_isFleet 264 = .ok (.iconst 1, 1) := by decide +kernel
theorem dL_isFleet_265 : decode cL_isFleet 265 = .ok (.goto 4, 3) := by decide +kernel
theorem dL_isFleet_268 : decode cL_isFleet 268 = .ok (.iconst 2, 1) := by decide +kernel
theorem dL_isFleet_269 : decode cL_isFleet 269 = .ok (.if_icmp .ne 109, 3) := by decide +kernel
theorem dL_isFleet_272 : decode cL_isFleet 272 = .ok (.aload_n 0, 1) := by decide +kernel
theorem dL_isFleet_273 : decode cL_isFleet 273 = .ok (.iload 8, 2) := by decide +kernel
theorem dL_isFleet_275 : decode cL_isFleet 275 = .ok (.iload 10, 2) := by decide +kernel
theorem dL_isFleet_277 : decode cL_isFleet 277 = .ok (.invokevirtual 85, 3) := by decide +kernel
theorem dL_isFleet_280 : decode cL_isFleet 280 = .ok (.iload 11, 2) := by decide +kernel
theorem dL_isFleet_282 : decode cL_isFleet 282 = .ok (.ifCond .lt 11, 3) := by decide +kernel
theorem dL_isFleet_285 : decode cL_isFleet 285 = .ok (.aload 4, 2) := by decide +kernel
theorem dL_isFleet_287 : decode cL_isFleet 287 = .ok (.iload 11, 2) := by decide +kernel
theorem dL_isFleet_289 : decode cL_isFleet 289 = .ok (.iaload, 1) := by decide +kernel
theorem dL_isFleet_290 : decode cL_isFleet 290 = .ok (.ifCond .ne 8, 3) := by decide +kernel
theorem dL_isFleet_293 : decode cL_isFleet 293 = .ok (.bipush (-3), 2) := by decide +kernel
theorem dL_isFleet_295 : decode cL_isFleet 295 = .ok (.goto 26, 3) := by decide +kernel
theorem dL_isFleet_298 : decode cL_isFleet 298 = .ok (.aload 4, 2) := by decide +kernel
theorem dL_isFleet_300 : decode cL_isFleet 300 = .ok (.iload 11, 2) := by decide +kernel
theorem dL_isFleet_302 : decode cL_isFleet 302 = .ok (.iaload, 1) := by decide +kernel
theorem dL_isFleet_303 : decode cL_isFleet 303 = .ok (.ifCond .le 11, 3) := by decide +kernel
theorem dL_isFleet_306 : decode cL_isFleet 306 = .ok (.aload 4, 2) := by decide +kernel
theorem dL_isFleet_308 : decode cL_isFleet 308 = .ok (.iload 11, 2) := by decide +kernel
theorem dL_isFleet_310 : decode cL_isFleet 310 = .ok (.iaload, 1) := by decide +kernel
theorem dL_isFleet_311 : decode cL_isFleet 311 = .ok (.goto 10, 3) := by decide +kernel
theorem dL_isFleet_314 : decode cL_isFleet 314 = .ok (.iconst (-1), 1) := by decide +kernel
theorem dL_isFleet_315 : decode cL_isFleet 315 = .ok (.aload 4, 2) := by decide +kernel
theorem dL_isFleet_317 : decode cL_isFleet 317 = .ok (.iload 11, 2) := by decide +kernel
theorem dL_isFleet_319 : decode cL_isFleet 319 = .ok (.iaload, 1) := by decide +kernel
theorem dL_isFleet_320 : decode cL_isFleet 320 = .ok (.isub, 1) := by decide +kernel
theorem dL_isFleet_321 : decode cL_isFleet 321 = .ok (.if_icmp .ne 57, 3) := by decide +kernel
theorem dL_isFleet_324 : decode cL_isFleet 324 = .ok (.aload_n 0, 1) := by decide +kernel
theorem dL_isFleet_325 : decode cL_isFleet 325 = .ok (.iload 8, 2) := by decide +kernel
theorem dL_isFleet_327 : decode cL_isFleet 327 = .ok (.iload 10, 2) := by decide +kernel
theorem dL_isFleet_329 : decode cL_isFleet 329 = .ok (.invokevirtual 88, 3) := by decide +kernel
theorem dL_isFleet_332 : decode cL_isFleet 332 = .ok (.iload 11, 2) := by decide +kernel
theorem dL_isFleet_334 : decode cL_isFleet 334 = .ok (.ifCond .ge 7, 3) := by decide +kernel
theorem dL_isFleet_337 : decode cL_isFleet 337 = .ok (.iconst 0, 1) := by decide +kernel
theorem dL_isFleet_338 : decode cL_isFleet 338 = .ok (.goto 8, 3) := by decide +kernel
theorem dL_isFleet_341 : decode cL_isFleet 341 = .ok (.aload 6, 2) := by decide +kernel
theorem dL_isFleet_343 : decode cL_isFleet 343 = .ok (.iload 11, 2) := by decide +kernel
theorem dL_isFleet_345 : decode cL_isFleet 345 = .ok (.iaload, 1) := by decide +kernel
theorem dL_isFleet_346 : decode cL_isFleet 346 = .ok (.if_icmp .ne 32, 3) := by decide +kernel
theorem dL_isFleet_349 : decode cL_isFleet 349 = .ok (.iload 11, 2) := by decide +kernel
theorem dL_isFleet_351 : decode cL_isFleet 351 = .ok (.ifCond .lt 23, 3) := by decide +kernel
theorem dL_isFleet_354 : decode cL_isFleet 354 = .ok (.aload_n 0, 1) := by decide +kernel
theorem dL_isFleet_355 : decode cL_isFleet 355 = .ok (.iload 8, 2) := by decide +kernel
theorem dL_isFleet_357 : decode cL_isFleet 357 = .ok (.iload 10, 2) := by decide +kernel
theorem dL_isFleet_359 : decode cL_isFleet 359 = .ok (.invokevirtual 41, 3) := by decide +kernel
theorem dL_isFleet_362 : decode cL_isFleet 362 = .ok (.aload 5, 2) := by decide +kernel
theorem dL_isFleet_364 : decode cL_isFleet 364 = .ok (.iload 11, 2) := by decide +kernel
theorem dL_isFleet_366 : decode cL_isFleet 366 = .ok (.iaload, 1) := by decide +kernel
theorem dL_isFleet_367 : decode cL_isFleet 367 = .ok (.aload_n 2, 1) := by decide +kernel
theorem dL_isFleet_368 : decode cL_isFleet 368 = .ok (.iconst 0, 1) := by decide +kernel
theorem dL_isFleet_369 : decode cL_isFleet 369 = .ok (.iaload, 1) := by decide +kernel
theorem dL_isFleet_370 : decode cL_isFleet 370 = .ok (.isub, 1) := by decide +kernel
theorem dL_isFleet_371 : decode cL_isFleet 371 = .ok (.if_icmp .ne 7, 3) := by decide +kernel
theorem dL_isFleet_374 : decode cL_isFleet 374 = .ok (.iconst 1, 1) := by decide +kernel
theorem dL_isFleet_375 : decode cL_isFleet 375 = .ok (.goto 4, 3) := by decide +kernel
theorem dL_isFleet_378 : decode cL_isFleet 378 = .ok (.iconst 0, 1) := by decide +kernel
theorem dL_isFleet_379 : decode cL_isFleet 379 = .ok (.istore 7, 2) := by decide +kernel
theorem dL_isFleet_381 : decode cL_isFleet 381 = .ok (.iinc 10 1, 3) := by decide +kernel
theorem dL_isFleet_384 : decode cL_isFleet 384 = .ok (.goto (-194), 3) := by decide +kernel
theorem dL_isFleet_387 : decode cL_isFleet 387 = .ok (.iload 7, 2) := by decide +kernel
theorem dL_isFleet_389 : decode cL_isFleet 389 = .ok (.ifCond .eq 18, 3) := by decide +kernel
theorem dL_isFleet_392 : decode cL_isFleet 392 = .ok (.aload_n 0, 1) := by decide +kernel
theorem dL_isFleet_393 : decode cL_isFleet 393 = .ok (.iload 8, 2) := by decide +kernel
theorem dL_isFleet_395 : decode cL_isFleet 395 = .ok (.invokevirtual 91, 3) := by decide +kernel
theorem dL_isFleet_398 : decode cL_isFleet 398 = .ok (.iload 9, 2) := by decide +kernel
theorem dL_isFleet_400 : decode cL_isFleet 400 = .ok (.if_icmp .ne 7, 3) := by decide +kernel
theorem dL_isFleet_403 : decode cL_isFleet 403 = .ok (.iconst 1, 1) := by decide +kernel
theorem dL_isFleet_404 : decode cL_isFleet 404 = .ok (.goto 4, 3) := by decide +kernel
theorem dL_isFleet_407 : decode cL_isFleet 407 = .ok (.iconst 0, 1) := by decide +kernel
theorem dL_isFleet_408 : decode cL_isFleet 408 = .ok (.istore 7, 2) := by decide +kernel
theorem dL_isFleet_410 : decode cL_isFleet 410 = .ok (.iinc 8 1, 3) := by decide +kernel
theorem dL_isFleet_413 : decode cL_isFleet 413 = .ok (.goto (-242), 3) := by decide +kernel
theorem dL_isFleet_416 : decode cL_isFleet 416 = .ok (.iload 7, 2) := by decide +kernel
theorem dL_isFleet_418 : decode cL_isFleet 418 = .ok (.ireturn, 1) := by decide +kernel
