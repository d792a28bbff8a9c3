theorem dX0_init_0 : decode cX0_init 0 = .ok (.aload_n 0, 1) := by decide +kernel
theorem dX0_init_1 : decode cX0_init 1 = .ok (.invokespecial 3, 3) := by decide +kernel
theorem dX0_init_4 : decode cX0_init 4 = .ok (.aload_n 0, 1) := by decide +kernel
theorem dX0_init_5 : decode cX0_init 5 = .ok (.iload_n 1, 1) := by decide +kernel
theorem dX0_init_6 : decode cX0_init 6 = .ok (.putfield 9, 3) := by decide +kernel
theorem dX0_init_9 : decode cX0_init 9 = .ok (.aload_n 0, 1) := by decide +kernel
theorem dX0_init_10 : decode cX0_init 10 = .ok (.iload_n 2, 1) := by decide +kernel
theorem dX0_init_11 : decode cX0_init 11 = .ok (.putfield 15, 3) := by decide +kernel
theorem dX0_init_14 : decode cX0_init 14 = .ok (.aload_n 0, 1) := by decide +kernel
theorem dX0_init_15 : decode cX0_init 15 = .ok (.iload_n 3, 1) := by decide +kernel
theorem dX0_init_16 : decode cX0_init 16 = .ok (.putfield 18, 3) := by decide +kernel
theorem dX0_init_19 : decode cX0_init 19 = .ok (.aload_n 0, 1) := by decide +kernel
theorem dX0_init_20 : decode cX0_init 20 = .ok (.iload 4, 2) := by decide +kernel
theorem dX0_init_22 : decode cX0_init 22 = .ok (.putfield 21, 3) := by decide +kernel
theorem dX0_init_25 : decode cX0_init 25 = .ok (.aload_n 0, 1) := by decide +kernel
theorem dX0_init_26 : decode cX0_init 26 = .ok (.iload 5, 2) := by decide +kernel
theorem dX0_init_28 : decode cX0_init 28 = .ok (.putfield 24, 3) := by decide +kernel
theorem dX0_init_31 : decode cX0_init 31 = .ok (.aload_n 0, 1) := by decide +kernel
theorem dX0_init_32 : decode cX0_init 32 = .ok (.iconst (-1), 1) := by decide +kernel
theorem dX0_init_33 : decode cX0_init 33 = .ok (.putfield 27, 3) := by decide +kernel
theorem dX0_init_36 : decode cX0_init 36 = .ok (.aload_n 0, 1) := by decide +kernel
theorem dX0_init_37 : decode cX0_init 37 = .ok (.iconst 0, 1) := by decide +kernel
theorem dX0_init_38 : decode cX0_init 38 = .ok (.putfield 30, 3) := by decide +kernel
theorem dX0_init_41 : decode cX0_init 41 = .ok (.return_, 1) := by decide +kernel
set_option maxRecDepth 20000 in
theorem ggX0_isHeldIn_X0_firstDenialIn : GoodIn wsX0_isHeldIn wsX0_firstDenialIn := goodIn_r _ [5, 6, 7, 8, 4, 9, 10, 11, 12, 13, 14, 15, 16, 17, 18, 19, 20, 21, 22, 23, 24, 25, 26, 27, 28, 29] (by decide +kernel) (by decide +kernel)
set_option maxRecDepth 20000 in
theorem gX0_isHeldIn_X0_firstDenialIn : GoodIn wsX0_isHeldIn (wsV RX0 34 RX0 yX0_firstDenialIn wsX0_firstDenialIn) := goodIn_app (goodIn_of _ (by decide +kernel)) ggX0_isHeldIn_X0_firstDenialIn
theorem dX0_isHeldIn_0 : decode cX0_isHeldIn 0 = .ok (.aload_n 0, 1) := by decide +kernel
theorem dX0_isHeldIn_1 : decode cX0_isHeldIn 1 = .ok (.aload_n 1, 1) := by decide +kernel
theorem dX0_isHeldIn_2 : decode cX0_isHeldIn 2 = .ok (.invokevirtual 34, 3) := by decide +kernel
theorem dX0_isHeldIn_5 : decode cX0_isHeldIn 5 = .ok (.iconst (-1), 1) := by decide +kernel
theorem dX0_isHeldIn_6 : decode cX0_isHeldIn 6 = .ok (.if_icmp .ne 7, 3) := by decide +kernel
theorem dX0_isHeldIn_9 : decode cX0_isHeldIn 9 = .ok (.iconst 1, 1) := by decide +kernel
theorem dX0_isHeldIn_10 : decode cX0_isHeldIn 10 = .ok (.goto 4, 3) := by decide +kernel
theorem dX0_isHeldIn_13 : decode cX0_isHeldIn 13 = .ok (.iconst 0, 1) := by decide +kernel
theorem dX0_isHeldIn_14 : decode cX0_isHeldIn 14 = .ok (.ireturn, 1) := by decide +kernel
set_option maxRecDepth 20000 in
theorem ggX0_firstDenialIn_X0_isDeniedBy : GoodIn wsX0_firstDenialIn wsX0_isDeniedBy := goodIn_r _ [5, 6, 7, 8, 9, 10, 11, 12, 13, 14, 15, 16, 17, 18, 19, 20, 21, 22, 23, 24, 25] (by decide +kernel) (by decide +kernel)
set_option maxRecDepth 20000 in
theorem gX0_firstDenialIn_X0_isDeniedBy : GoodIn wsX0_firstDenialIn (wsV RX0 38 RX0 yX0_isDeniedBy wsX0_isDeniedBy) := goodIn_app (goodIn_of _ (by decide +kernel)) ggX0_firstDenialIn_X0_isDeniedBy
theorem dX0_firstDenialIn_0 : decode cX0_firstDenialIn 0 = .ok (.iconst 0, 1) := by decide +kernel
theorem dX0_firstDenialIn_1 : decode cX0_firstDenialIn 1 = .ok (.istore_n 2, 1) := by decide +kernel
theorem dX0_firstDenialIn_2 : decode cX0_firstDenialIn 2 = .ok (.iload_n 2, 1) := by decide +kernel
theorem dX0_firstDenialIn_3 : decode cX0_firstDenialIn 3 = .ok (.sipush 256, 3) := by decide +kernel
theorem dX0_firstDenialIn_6 : decode cX0_firstDenialIn 6 = .ok (.if_icmp .ge 20, 3) := by decide +kernel
theorem dX0_firstDenialIn_9 : decode cX0_firstDenialIn 9 = .ok (.aload_n 0, 1) := by decide +kernel
theorem dX0_firstDenialIn_10 : decode cX0_firstDenialIn 10 = .ok (.iload_n 2, 1) := by decide +kernel
theorem dX0_firstDenialIn_11 : decode cX0_firstDenialIn 11 = .ok (.aload_n 1, 1) := by decide +kernel
theorem dX0_firstDenialIn_12 : decode cX0_firstDenialIn 12 = .ok (.invokevirtual 38, 3) := by decide +kernel
theorem dX0_firstDenialIn_15 : decode cX0_firstDenialIn 15 = .ok (.ifCond .eq 5, 3) := by decide +kernel
theorem dX0_firstDenialIn_18 : decode cX0_firstDenialIn 18 = .ok (.iload_n 2, 1) := by decide +kernel
theorem dX0_firstDenialIn_19 : decode cX0_firstDenialIn 19 = .ok (.ireturn, 1) := by decide +kernel
theorem dX0_firstDenialIn_20 : decode cX0_firstDenialIn 20 = .ok (.iinc 2 1, 3) := by decide +kernel
theorem dX0_firstDenialIn_23 : decode cX0_firstDenialIn 23 = .ok (.goto (-21), 3) := by decide +kernel
theorem dX0_firstDenialIn_26 : decode cX0_firstDenialIn 26 = .ok (.iconst (-1), 1) := by decide +kernel
theorem dX0_firstDenialIn_27 : decode cX0_firstDenialIn 27 = .ok (.ireturn, 1) := by decide +kernel
set_option maxRecDepth 20000 in
theorem ggX0_harmIn_X0_isDeniedBy : GoodIn wsX0_harmIn wsX0_isDeniedBy := goodIn_r _ [5, 6, 7, 8, 9, 10, 11, 12, 13, 14, 15, 16, 17, 18, 19, 20, 21, 22, 23, 24, 25] (by decide +kernel) (by decide +kernel)
set_option maxRecDepth 20000 in
theorem gX0_harmIn_X0_isDeniedBy : GoodIn wsX0_harmIn (wsV RX0 38 RX0 yX0_isDeniedBy wsX0_isDeniedBy) := goodIn_app (goodIn_of _ (by decide +kernel)) ggX0_harmIn_X0_isDeniedBy
theorem dX0_harmIn_0 : decode cX0_harmIn 0 = .ok (.iconst 0, 1) := by decide +kernel
theorem dX0_harmIn_1 : decode cX0_harmIn 1 = .ok (.istore_n 2, 1) := by decide +kernel
theorem dX0_harmIn_2 : decode cX0_harmIn 2 = .ok (.iconst 0, 1) := by decide +kernel
theorem dX0_harmIn_3 : decode cX0_harmIn 3 = .ok (.istore_n 3, 1) := by decide +kernel
theorem dX0_harmIn_4 : decode cX0_harmIn 4 = .ok (.iload_n 3, 1) := by decide +kernel
theorem dX0_harmIn_5 : decode cX0_harmIn 5 = .ok (.sipush 256, 3) := by decide +kernel
theorem dX0_harmIn_8 : decode cX0_harmIn 8 = .ok (.if_icmp .ge 21, 3) := by decide +kernel
theorem dX0_harmIn_11 : decode cX0_harmIn 11 = .ok (.aload_n 0, 1) := by decide +kernel
theorem dX0_harmIn_12 : decode cX0_harmIn 12 = .ok (.iload_n 3, 1) := by decide +kernel
theorem dX0_harmIn_13 : decode cX0_harmIn 13 = .ok (.aload_n 1, 1) := by decide +kernel
theorem dX0_harmIn_14 : decode cX0_harmIn 14 = .ok (.invokevirtual 38, 3) := by decide +kernel
theorem dX0_harmIn_17 : decode cX0_harmIn 17 = .ok (.ifCond .eq 6, 3) := by decide +kernel
theorem dX0_harmIn_20 : decode cX0_harmIn 20 = .ok (.iinc 2 1, 3) := by decide +kernel
theorem dX0_harmIn_23 : decode cX0_harmIn 23 = .ok (.iinc 3 1, 3) := by decide +kernel
theorem dX0_harmIn_26 : decode cX0_harmIn 26 = .ok (.goto (-22), 3) := by decide +kernel
theorem dX0_harmIn_29 : decode cX0_harmIn 29 = .ok (.iload_n 2, 1) := by decide +kernel
theorem dX0_harmIn_30 : decode cX0_harmIn 30 = .ok (.ireturn, 1) := by decide +kernel
set_option maxRecDepth 20000 in
theorem ggX0_isDeniedBy_X2_given : GoodIn wsX0_isDeniedBy wsX2_given := goodIn_r _ [10, 11, 12, 20] (by decide +kernel) (by decide +kernel)
set_option maxRecDepth 20000 in
theorem gX0_isDeniedBy_X2_given : GoodIn wsX0_isDeniedBy (wsV RX0 42 RX2 yX2_given wsX2_given) := goodIn_app (goodIn_of _ (by decide +kernel)) ggX0_isDeniedBy_X2_given
theorem dX0_isDeniedBy_0 : decode cX0_isDeniedBy 0 = .ok (.aload_n 2, 1) := by decide +kernel
theorem dX0_isDeniedBy_1 : decode cX0_isDeniedBy 1 = .ok (.aload_n 0, 1) := by decide +kernel
theorem dX0_isDeniedBy_2 : decode cX0_isDeniedBy 2 = .ok (.getfield 9, 3) := by decide +kernel
theorem dX0_isDeniedBy_5 : decode cX0_isDeniedBy 5 = .ok (.iload_n 1, 1) := by decide +kernel
theorem dX0_isDeniedBy_6 : decode cX0_isDeniedBy 6 = .ok (.invokevirtual 42, 3) := by decide +kernel
theorem dX0_isDeniedBy_9 : decode cX0_isDeniedBy 9 = .ok (.istore_n 3, 1) := by decide +kernel
theorem dX0_isDeniedBy_10 : decode cX0_isDeniedBy 10 = .ok (.iload_n 3, 1) := by decide +kernel
theorem dX0_isDeniedBy_11 : decode cX0_isDeniedBy 11 = .ok (.ldc 48, 2) := by decide +kernel
theorem dX0_isDeniedBy_13 : decode cX0_isDeniedBy 13 = .ok (.if_icmp .ne 7, 3) := by decide +kernel
theorem dX0_isDeniedBy_16 : decode cX0_isDeniedBy 16 = .ok (.iconst 1, 1) := by decide +kernel
theorem dX0_isDeniedBy_17 : decode cX0_isDeniedBy 17 = .ok (.goto 4, 3) := by decide +kernel
theorem dX0_isDeniedBy_20 : decode cX0_isDeniedBy 20 = .ok (.iconst 0, 1) := by decide +kernel
theorem dX0_isDeniedBy_21 : decode cX0_isDeniedBy 21 = .ok (.istore 4, 2) := by decide +kernel
theorem dX0_isDeniedBy_23 : decode cX0_isDeniedBy 23 = .ok (.iload_n 1, 1) := by decide +kernel
theorem dX0_isDeniedBy_24 : decode cX0_isDeniedBy 24 = .ok (.bipush 16, 2) := by decide +kernel
theorem dX0_isDeniedBy_26 : decode cX0_isDeniedBy 26 = .ok (.idiv, 1) := by decide +kernel
theorem dX0_isDeniedBy_27 : decode cX0_isDeniedBy 27 = .ok (.istore 5, 2) := by decide +kernel
theorem dX0_isDeniedBy_29 : decode cX0_isDeniedBy 29 = .ok (.iload_n 1, 1) := by decide +kernel
theorem dX0_isDeniedBy_30 : decode cX0_isDeniedBy 30 = .ok (.bipush 16, 2) := by decide +kernel
theorem dX0_isDeniedBy_32 : decode cX0_isDeniedBy 32 = .ok (.irem, 1) := by decide +kernel
theorem dX0_isDeniedBy_33 : decode cX0_isDeniedBy 33 = .ok (.istore 6, 2) := by decide +kernel
theorem dX0_isDeniedBy_35 : decode cX0_isDeniedBy 35 = .ok (.aload_n 0, 1) := by decide +kernel
theorem dX0_isDeniedBy_36 : decode cX0_isDeniedBy 36 = .ok (.getfield 15, 3) := by decide +kernel
theorem dX0_isDeniedBy_39 : decode cX0_isDeniedBy 39 = .ok (.tableswitch 232 0 7 #[45, 72, 75, 113, 140, 166, 188, 213], 45) := by decide +kernel
theorem dX0_isDeniedBy_84 : decode cX0_isDeniedBy 84 = .ok (.iload 4, 2) := by decide +kernel
theorem dX0_isDeniedBy_86 : decode cX0_isDeniedBy 86 = .ok (.ifCond .ne 23, 3) := by decide +kernel
theorem dX0_isDeniedBy_89 : decode cX0_isDeniedBy 89 = .ok (.iload_n 3, 1) := by decide +kernel
theorem dX0_isDeniedBy_90 : decode cX0_isDeniedBy 90 = .ok (.aload_n 0, 1) := by decide +kernel
theorem dX0_isDeniedBy_91 : decode cX0_isDeniedBy 91 = .ok (.getfield 18, 3) := by decide +kernel
theorem dX0_isDeniedBy_94 : decode cX0_isDeniedBy 94 = .ok (.if_icmp .lt 11, 3) := by decide +kernel
theorem dX0_isDeniedBy_97 : decode cX0_isDeniedBy 97 = .ok (.iload_n 3, 1) := by decide +kernel
theorem dX0_isDeniedBy_98 : decode cX0_isDeniedBy 98 = .ok (.aload_n 0, 1) := by decide +kernel
theorem dX0_isDeniedBy_99 : decode cX0_isDeniedBy 99 = .ok (.getfield 21, 3) := by decide +kernel
theorem dX0_isDeniedBy_102 : decode cX0_isDeniedBy 102 = .ok (.if_icmp .le 7, 3) := by decide +kernel
theorem dX0_isDeniedBy_105 : decode cX0_isDeniedBy 105 = .ok (.iconst 1, 1) := by decide +kernel
theorem dX0_isDeniedBy_106 : decode cX0_isDeniedBy 106 = .ok (.goto 4, 3) := by decide +kernel
theorem dX0_isDeniedBy_109 : decode cX0_isDeniedBy 109 = .ok (.iconst 0, 1) := by decide +kernel
theorem dX0_isDeniedBy_110 : decode cX0_isDeniedBy 110 = .ok (.ireturn, 1) := by decide +kernel
theorem dX0_isDeniedBy_111 : decode cX0_isDeniedBy 111 = .ok (.iload 4, 2) := by decide +kernel
theorem dX0_isDeniedBy_113 : decode cX0_isDeniedBy 113 = .ok (.ireturn, 1) := by decide +kernel
theorem dX0_isDeniedBy_114 : decode cX0_isDeniedBy 114 = .ok (.aload_n 2, 1) := by decide +kernel
theorem dX0_isDeniedBy_115 : decode cX0_isDeniedBy 115 = .ok (.aload_n 0, 1) := by decide +kernel
theorem dX0_isDeniedBy_116 : decode cX0_isDeniedBy 116 = .ok (.getfield 9, 3) := by decide +kernel
theorem dX0_isDeniedBy_119 : decode cX0_isDeniedBy 119 = .ok (.iload_n 1, 1) := by decide +kernel
theorem dX0_isDeniedBy_120 : decode cX0_isDeniedBy 120 = .ok (.bipush 16, 2) := by decide +kernel
theorem dX0_isDeniedBy_122 : decode cX0_isDeniedBy 122 = .ok (.iadd, 1) := by decide +kernel
theorem dX0_isDeniedBy_123 : decode cX0_isDeniedBy 123 = .ok (.invokevirtual 42, 3) := by decide +kernel
theorem dX0_isDeniedBy_126 : decode cX0_isDeniedBy 126 = .ok (.istore 7, 2) := by decide +kernel
theorem dX0_isDeniedBy_128 : decode cX0_isDeniedBy 128 = .ok (.iload 4, 2) := by decide +kernel
theorem dX0_isDeniedBy_130 : decode cX0_isDeniedBy 130 = .ok (.ifCond .ne 20, 3) := by decide +kernel
theorem dX0_isDeniedBy_133 : decode cX0_isDeniedBy 133 = .ok (.iload 7, 2) := by decide +kernel
theorem dX0_isDeniedBy_135 : decode cX0_isDeniedBy 135 = .ok (.ldc 48, 2) := by decide +kernel
theorem dX0_isDeniedBy_137 : decode cX0_isDeniedBy 137 = .ok (.if_icmp .eq 13, 3) := by decide +kernel
theorem dX0_isDeniedBy_140 : decode cX0_isDeniedBy 140 = .ok (.iload 7, 2) := by decide +kernel
theorem dX0_isDeniedBy_142 : decode cX0_isDeniedBy 142 = .ok (.iload_n 3, 1) := by decide +kernel
theorem dX0_isDeniedBy_143 : decode cX0_isDeniedBy 143 = .ok (.if_icmp .ge 7, 3) := by decide +kernel
theorem dX0_isDeniedBy_146 : decode cX0_isDeniedBy 146 = .ok (.iconst 1, 1) := by decide +kernel
theorem dX0_isDeniedBy_147 : decode cX0_isDeniedBy 147 = .ok (.goto 4, 3) := by decide +kernel
theorem dX0_isDeniedBy_150 : decode cX0_isDeniedBy 150 = .ok (.iconst 0, 1) := by decide +kernel
theorem dX0_isDeniedBy_151 : decode cX0_isDeniedBy 151 = .ok (.ireturn, 1) := by decide +kernel
theorem dX0_isDeniedBy_152 : decode cX0_isDeniedBy 152 = .ok (.iload 4, 2) := by decide +kernel
theorem dX0_isDeniedBy_154 : decode cX0_isDeniedBy 154 = .ok (.ifCond .ne 23, 3) := by decide +kernel
theorem dX0_isDeniedBy_157 : decode cX0_isDeniedBy 157 = .ok (.aload_n 0, 1) := by decide +kernel
theorem dX0_isDeniedBy_158 : decode cX0_isDeniedBy 158 = .ok (.getfield 18, 3) := by decide +kernel
theorem dX0_isDeniedBy_161 : decode cX0_isDeniedBy 161 = .ok (.ifCond .le 16, 3) := by decide +kernel
theorem dX0_isDeniedBy_164 : decode cX0_isDeniedBy 164 = .ok (.iload_n 3, 1) := by decide +kernel
theorem dX0_isDeniedBy_165 : decode cX0_isDeniedBy 165 = .ok (.aload_n 0, 1) := by decide +kernel
theorem dX0_isDeniedBy_166 : decode cX0_isDeniedBy 166 = .ok (.getfield 18, 3) := by decide +kernel
theorem dX0_isDeniedBy_169 : decode cX0_isDeniedBy 169 = .ok (.irem, 1) := by decide +kernel
theorem dX0_isDeniedBy_170 : decode cX0_isDeniedBy 170 = .ok (.ifCond .eq 7, 3) := by decide +kernel
theorem dX0_isDeniedBy_173 : decode cX0_isDeniedBy 173 = .ok (.iconst 1, 1) := by decide +kernel
theorem dX0_isDeniedBy_174 : decode cX0_isDeniedBy 174 = .ok (.goto 4, 3) := by decide +kernel
theorem dX0_isDeniedBy_177 : decode cX0_isDeniedBy 177 = .ok (.iconst 0, 1) := by decide +kernel
theorem dX0_isDeniedBy_178 : decode cX0_isDeniedBy 178 = .ok (.ireturn, 1) := by decide +kernel
theorem dX0_isDeniedBy_179 : decode cX0_isDeniedBy 179 = .ok (.iload_n 3, 1) := by decide +kernel
theorem dX0_isDeniedBy_180 : decode cX0_isDeniedBy 180 = .ok (.aload_n 2, 1) := by decide +kernel
theorem dX0_isDeniedBy_181 : decode cX0_isDeniedBy 181 = .ok (.aload_n 0, 1) := by decide +kernel
theorem dX0_isDeniedBy_182 : decode cX0_isDeniedBy 182 = .ok (.getfield 9, 3) := by decide +kernel
theorem dX0_isDeniedBy_185 : decode cX0_isDeniedBy 185 = .ok (.iload 6, 2) := by decide +kernel
theorem dX0_isDeniedBy_187 : decode cX0_isDeniedBy 187 = .ok (.bipush 16, 2) := by decide +kernel
theorem dX0_isDeniedBy_189 : decode cX0_isDeniedBy 189 = .ok (.imul, 1) := by decide +kernel
theorem dX0_isDeniedBy_190 : decode cX0_isDeniedBy 190 = .ok (.iload 5, 2) := by decide +kernel
theorem dX0_isDeniedBy_192 : decode cX0_isDeniedBy 192 = .ok (.iadd, 1) := by decide +kernel
theorem dX0_isDeniedBy_193 : decode cX0_isDeniedBy 193 = .ok (.invokevirtual 42, 3) := by decide +kernel
theorem dX0_isDeniedBy_196 : decode cX0_isDeniedBy 196 = .ok (.if_icmp .eq 7, 3) := by decide +kernel
theorem dX0_isDeniedBy_199 : decode cX0_isDeniedBy 199 = .ok (.iconst 1, 1) := by decide +kernel
theorem dX0_isDeniedBy_200 : decode cX0_isDeniedBy 200 = .ok (.goto 4, 3) := by decide +kernel
theorem dX0_isDeniedBy_203 : decode cX0_isDeniedBy 203 = .ok (.iconst 0, 1) := by decide +kernel
theorem dX0_isDeniedBy_204 : decode cX0_isDeniedBy 204 = .ok (.ireturn, 1) := by decide +kernel
theorem dX0_isDeniedBy_205 : decode cX0_isDeniedBy 205 = .ok (.iload_n 1, 1) := by decide +kernel
theorem dX0_isDeniedBy_206 : decode cX0_isDeniedBy 206 = .ok (.aload_n 0, 1) := by decide +kernel
theorem dX0_isDeniedBy_207 : decode cX0_isDeniedBy 207 = .ok (.getfield 18, 3) := by decide +kernel
theorem dX0_isDeniedBy_210 : decode cX0_isDeniedBy 210 = .ok (.if_icmp .ne 15, 3) := by decide +kernel
theorem dX0_isDeniedBy_213 : decode cX0_isDeniedBy 213 = .ok (.iload_n 3, 1) := by decide +kernel
theorem dX0_isDeniedBy_214 : decode cX0_isDeniedBy 214 = .ok (.aload_n 0, 1) := by decide +kernel
theorem dX0_isDeniedBy_215 : decode cX0_isDeniedBy 215 = .ok (.getfield 21, 3) := by decide +kernel
theorem dX0_isDeniedBy_218 : decode cX0_isDeniedBy 218 = .ok (.if_icmp .eq 7, 3) := by decide +kernel
theorem dX0_isDeniedBy_221 : decode cX0_isDeniedBy 221 = .ok (.iconst 1, 1) := by decide +kernel
theorem dX0_isDeniedBy_222 : decode cX0_isDeniedBy 222 = .ok (.goto 4, 3) := by decide +kernel
theorem dX0_isDeniedBy_225 : decode cX0_isDeniedBy 225 = .ok (.iconst 0, 1) := by decide +kernel
theorem dX0_isDeniedBy_226 : decode cX0_isDeniedBy 226 = .ok (.ireturn, 1) := by decide +kernel
theorem dX0_isDeniedBy_227 : decode cX0_isDeniedBy 227 = .ok (.iload 4, 2) := by decide +kernel
theorem dX0_isDeniedBy_229 : decode cX0_isDeniedBy 229 = .ok (.iload 5, 2) := by decide +kernel
theorem dX0_isDeniedBy_231 : decode cX0_isDeniedBy 231 = .ok (.aload_n 0, 1) := by decide +kernel
theorem dX0_isDeniedBy_232 : decode cX0_isDeniedBy 232 = .ok (.getfield 18, 3) := by decide +kernel
theorem dX0_isDeniedBy_235 : decode cX0_isDeniedBy 235 = .ok (.if_icmp .ge 7, 3) := by decide +kernel
theorem dX0_isDeniedBy_238 : decode cX0_isDeniedBy 238 = .ok (.iconst 1, 1) := by decide +kernel
theorem dX0_isDeniedBy_239 : decode cX0_isDeniedBy 239 = .ok (.goto 4, 3) := by decide +kernel
theorem dX0_isDeniedBy_242 : decode cX0_isDeniedBy 242 = .ok (.iconst 0, 1) := by decide +kernel
theorem dX0_isDeniedBy_243 : decode cX0_isDeniedBy 243 = .ok (.if_icmp .ne 7, 3) := by decide +kernel
theorem dX0_isDeniedBy_246 : decode cX0_isDeniedBy 246 = .ok (.iconst 1, 1) := by decide +kernel
theorem dX0_isDeniedBy_247 : decode cX0_isDeniedBy 247 = .ok (.goto 4, 3) := by decide +kernel
theorem dX0_isDeniedBy_250 : decode cX0_isDeniedBy 250 = .ok (.iconst 0, 1) := by decide +kernel
theorem dX0_isDeniedBy_251 : decode cX0_isDeniedBy 251 = .ok (.ireturn, 1) := by decide +kernel
theorem dX0_isDeniedBy_252 : decode cX0_isDeniedBy 252 = .ok (.iload_n 3, 1) := by decide +kernel
theorem dX0_isDeniedBy_253 : decode cX0_isDeniedBy 253 = .ok (.aload_n 2, 1) := by decide +kernel
theorem dX0_isDeniedBy_254 : decode cX0_isDeniedBy 254 = .ok (.aload_n 0, 1) := by decide +kernel
theorem dX0_isDeniedBy_255 : decode cX0_isDeniedBy 255 = .ok (.getfield 18, 3) := by decide +kernel
theorem dX0_isDeniedBy_258 : decode cX0_isDeniedBy 258 = .ok (.iload_n 1, 1) := by decide +kernel
theorem dX0_isDeniedBy_259 : decode cX0_isDeniedBy 259 = .ok (.invokevirtual 42, 3) := by decide +kernel
theorem dX0_isDeniedBy_262 : decode cX0_isDeniedBy 262 = .ok (.if_icmp .eq 7, 3) := by decide +kernel
theorem dX0_isDeniedBy_265 : decode cX0_isDeniedBy 265 = .ok (.iconst 1, 1) := by decide +kernel
theorem dX0_isDeniedBy_266 : decode cX0_isDeniedBy 266 = .ok (.goto 4, 3) := by decide +kernel
theorem dX0_isDeniedBy_269 : decode cX0_isDeniedBy 269 = .ok (.iconst 0, 1) := by decide +kernel
theorem dX0_isDeniedBy_270 : decode cX0_isDeniedBy 270 = .ok (.ireturn, 1) := by decide +kernel
theorem dX0_isDeniedBy_271 : decode cX0_isDeniedBy 271 = .ok (.iconst 0, 1) := by decide +kernel
theorem dX0_isDeniedBy_272 : decode cX0_isDeniedBy 272 = .ok (.ireturn, 1) := by decide +kernel
theorem dX1_init_0 : decode cX1_init 0 = .ok (.aload_n 0, 1) := by decide +kernel
theorem dX1_init_1 : decode cX1_init 1 = .ok (.invokespecial 3, 3) := by decide +kernel
theorem dX1_init_4 : decode cX1_init 4 = .ok (.aload_n 0, 1) := by decide +kernel
theorem dX1_init_5 : decode cX1_init 5 = .ok (.bipush 72, 2) := by decide +kernel
theorem dX1_init_7 : decode cX1_init 7 = .ok (.newarray .int, 2) := by decide +kernel
theorem dX1_init_9 : decode cX1_init 9 = .ok (.putfield 9, 3) := by decide +kernel
theorem dX1_init_12 : decode cX1_init 12 = .ok (.aload_n 0, 1) := by decide +kernel
theorem dX1_init_13 : decode cX1_init 13 = .ok (.bipush 6, 2) := by decide +kernel
theorem dX1_init_15 : decode cX1_init 15 = .ok (.newarray .int, 2) := by decide +kernel
theorem dX1_init_17 : decode cX1_init 17 = .ok (.putfield 15, 3) := by decide +kernel
theorem dX1_init_20 : decode cX1_init 20 = .ok (.return_, 1) := by decide +kernel
set_option maxRecDepth 20000 in
theorem ggX1_length_X3_isFunction : GoodIn wsX1_length wsX3_isFunction := goodIn_r _ [4] (by decide +kernel) (by decide +kernel)
set_option maxRecDepth 20000 in
theorem gX1_length_X3_isFunction_n18 : GoodIn wsX1_length (wsX3_isFunction) := ggX1_length_X3_isFunction
theorem dX1_length_0 : decode cX1_length 0 = .ok (.iload_n 1, 1) := by decide +kernel
theorem dX1_length_1 : decode cX1_length 1 = .ok (.invokestatic 18, 3) := by decide +kernel
theorem dX1_length_4 : decode cX1_length 4 = .ok (.ifCond .eq 12, 3) := by decide +kernel
theorem dX1_length_7 : decode cX1_length 7 = .ok (.aload_n 0, 1) := by decide +kernel
theorem dX1_length_8 : decode cX1_length 8 = .ok (.getfield 15, 3) := by decide +kernel
theorem dX1_length_11 : decode cX1_length 11 = .ok (.iload_n 1, 1) := by decide +kernel
theorem dX1_length_12 : decode cX1_length 12 = .ok (.iaload, 1) := by decide +kernel
theorem dX1_length_13 : decode cX1_length 13 = .ok (.goto 4, 3) := by decide +kernel
theorem dX1_length_16 : decode cX1_length 16 = .ok (.iconst 0, 1) := by decide +kernel
theorem dX1_length_17 : decode cX1_length 17 = .ok (.ireturn, 1) := by decide +kernel
set_option maxRecDepth 20000 in
theorem ggX1_empty_X3_isFunction : GoodIn wsX1_empty wsX3_isFunction := goodIn_r _ [4] (by decide +kernel) (by decide +kernel)
set_option maxRecDepth 20000 in
theorem gX1_empty_X3_isFunction_n18 : GoodIn wsX1_empty (wsX3_isFunction) := ggX1_empty_X3_isFunction
theorem dX1_empty_0 : decode cX1_empty 0 = .ok (.iload_n 1, 1) := by decide +kernel
theorem dX1_empty_1 : decode cX1_empty 1 = .ok (.invokestatic 18, 3) := by decide +kernel
theorem dX1_empty_4 : decode cX1_empty 4 = .ok (.ifCond .eq 10, 3) := by decide +kernel
theorem dX1_empty_7 : decode cX1_empty 7 = .ok (.aload_n 0, 1) := by decide +kernel
theorem dX1_empty_8 : decode cX1_empty 8 = .ok (.getfield 15, 3) := by decide +kernel
theorem dX1_empty_11 : decode cX1_empty 11 = .ok (.iload_n 1, 1) := by decide +kernel
theorem dX1_empty_12 : decode cX1_empty 12 = .ok (.iconst 0, 1) := by decide +kernel
theorem dX1_empty_13 : decode cX1_empty 13 = .ok (.iastore, 1) := by decide +kernel
theorem dX1_empty_14 : decode cX1_empty 14 = .ok (.return_, 1) := by decide +kernel
set_option maxRecDepth 20000 in
theorem ggX1_append_X3_isFunction : GoodIn wsX1_append wsX3_isFunction := goodIn_r _ [4] (by decide +kernel) (by decide +kernel)
set_option maxRecDepth 20000 in
theorem gX1_append_X3_isFunction_n18 : GoodIn wsX1_append (wsX3_isFunction) := ggX1_append_X3_isFunction
set_option maxRecDepth 20000 in
theorem ggX1_append_X1_put : GoodIn wsX1_append wsX1_put := goodIn_r _ [9, 10, 2, 3, 4, 11, 12] (by decide +kernel) (by decide +kernel)
set_option maxRecDepth 20000 in
theorem gX1_append_X1_put : GoodIn wsX1_append (wsV RX1 22 RX1 yX1_put wsX1_put) := goodIn_app (goodIn_of _ (by decide +kernel)) ggX1_append_X1_put
theorem dX1_append_0 : decode cX1_append 0 = .ok (.iload_n 1, 1) := by decide +kernel
theorem dX1_append_1 : decode cX1_append 1 = .ok (.invokestatic 18, 3) := by decide +kernel
theorem dX1_append_4 : decode cX1_append 4 = .ok (.ifCond .eq 38, 3) := by decide +kernel
theorem dX1_append_7 : decode cX1_append 7 = .ok (.aload_n 0, 1) := by decide +kernel
theorem dX1_append_8 : decode cX1_append 8 = .ok (.getfield 15, 3) := by decide +kernel
theorem dX1_append_11 : decode cX1_append 11 = .ok (.iload_n 1, 1) := by decide +kernel
theorem dX1_append_12 : decode cX1_append 12 = .ok (.iaload, 1) := by decide +kernel
theorem dX1_append_13 : decode cX1_append 13 = .ok (.bipush 12, 2) := by decide +kernel
theorem dX1_append_15 : decode cX1_append 15 = .ok (.if_icmp .ge 27, 3) := by decide +kernel
theorem dX1_append_18 : decode cX1_append 18 = .ok (.aload_n 0, 1) := by decide +kernel
theorem dX1_append_19 : decode cX1_append 19 = .ok (.getfield 15, 3) := by decide +kernel
theorem dX1_append_22 : decode cX1_append 22 = .ok (.iload_n 1, 1) := by decide +kernel
theorem dX1_append_23 : decode cX1_append 23 = .ok (.dup2, 1) := by decide +kernel
theorem dX1_append_24 : decode cX1_append 24 = .ok (.iaload, 1) := by decide +kernel
theorem dX1_append_25 : decode cX1_append 25 = .ok (.iconst 1, 1) := by decide +kernel
theorem dX1_append_26 : decode cX1_append 26 = .ok (.iadd, 1) := by decide +kernel
theorem dX1_append_27 : decode cX1_append 27 = .ok (.iastore, 1) := by decide +kernel
theorem dX1_append_28 : decode cX1_append 28 = .ok (.aload_n 0, 1) := by decide +kernel
theorem dX1_append_29 : decode cX1_append 29 = .ok (.iload_n 1, 1) := by decide +kernel
theorem dX1_append_30 : decode cX1_append 30 = .ok (.aload_n 0, 1) := by decide +kernel
theorem dX1_append_31 : decode cX1_append 31 = .ok (.getfield 15, 3) := by decide +kernel
theorem dX1_append_34 : decode cX1_append 34 = .ok (.iload_n 1, 1) := by decide +kernel
theorem dX1_append_35 : decode cX1_append 35 = .ok (.iaload, 1) := by decide +kernel
theorem dX1_append_36 : decode cX1_append 36 = .ok (.iconst 1, 1) := by decide +kernel
theorem dX1_append_37 : decode cX1_append 37 = .ok (.isub, 1) := by decide +kernel
theorem dX1_append_38 : decode cX1_append 38 = .ok (.iload_n 2, 1) := by decide +kernel
theorem dX1_append_39 : decode cX1_append 39 = .ok (.invokevirtual 22, 3) := by decide +kernel
theorem dX1_append_42 : decode cX1_append 42 = .ok (.return_, 1) := by decide +kernel
set_option maxRecDepth 20000 in
theorem ggX1_put_X3_isFunction : GoodIn wsX1_put wsX3_isFunction := goodIn_r _ [4] (by decide +kernel) (by decide +kernel)
set_option maxRecDepth 20000 in
theorem gX1_put_X3_isFunction_n18 : GoodIn wsX1_put (wsX3_isFunction) := ggX1_put_X3_isFunction
theorem dX1_put_0 : decode cX1_put 0 = .ok (.iload_n 1, 1) := by decide +kernel
theorem dX1_put_1 : decode cX1_put 1 = .ok (.invokestatic 18, 3) := by decide +kernel
theorem dX1_put_4 : decode cX1_put 4 = .ok (.ifCond .eq 25, 3) := by decide +kernel
theorem dX1_put_7 : decode cX1_put 7 = .ok (.iload_n 2, 1) := by decide +kernel
theorem dX1_put_8 : decode cX1_put 8 = .ok (.ifCond .lt 21, 3) := by decide +kernel
theorem dX1_put_11 : decode cX1_put 11 = .ok (.iload_n 2, 1) := by decide +kernel
theorem dX1_put_12 : decode cX1_put 12 = .ok (.bipush 12, 2) := by decide +kernel
theorem dX1_put_14 : decode cX1_put 14 = .ok (.if_icmp .ge 15, 3) := by decide +kernel
theorem dX1_put_17 : decode cX1_put 17 = .ok (.aload_n 0, 1) := by decide +kernel
theorem dX1_put_18 : decode cX1_put 18 = .ok (.getfield 9, 3) := by decide +kernel
theorem dX1_put_21 : decode cX1_put 21 = .ok (.iload_n 1, 1) := by decide +kernel
theorem dX1_put_22 : decode cX1_put 22 = .ok (.bipush 12, 2) := by decide +kernel
theorem dX1_put_24 : decode cX1_put 24 = .ok (.imul, 1) := by decide +kernel
theorem dX1_put_25 : decode cX1_put 25 = .ok (.iload_n 2, 1) := by decide +kernel
theorem dX1_put_26 : decode cX1_put 26 = .ok (.iadd, 1) := by decide +kernel
theorem dX1_put_27 : decode cX1_put 27 = .ok (.iload_n 3, 1) := by decide +kernel
theorem dX1_put_28 : decode cX1_put 28 = .ok (.iastore, 1) := by decide +kernel
theorem dX1_put_29 : decode cX1_put 29 = .ok (.return_, 1) := by decide +kernel
set_option maxRecDepth 20000 in
theorem ggX1_at_X3_isFunction : GoodIn wsX1_at wsX3_isFunction := goodIn_r _ [4] (by decide +kernel) (by decide +kernel)
set_option maxRecDepth 20000 in
theorem gX1_at_X3_isFunction_n18 : GoodIn wsX1_at (wsX3_isFunction) := ggX1_at_X3_isFunction
theorem dX1_at_0 : decode cX1_at 0 = .ok (.iload_n 1, 1) := by decide +kernel
theorem dX1_at_1 : decode cX1_at 1 = .ok (.invokestatic 18, 3) := by decide +kernel
theorem dX1_at_4 : decode cX1_at 4 = .ok (.ifCond .eq 13, 3) := by decide +kernel
theorem dX1_at_7 : decode cX1_at 7 = .ok (.iload_n 2, 1) := by decide +kernel
theorem dX1_at_8 : decode cX1_at 8 = .ok (.ifCond .lt 9, 3) := by decide +kernel
theorem dX1_at_11 : decode cX1_at 11 = .ok (.iload_n 2, 1) := by decide +kernel
theorem dX1_at_12 : decode cX1_at 12 = .ok (.bipush 12, 2) := by decide +kernel
theorem dX1_at_14 : decode cX1_at 14 = .ok (.if_icmp .lt 5, 3) := by decide +kernel
theorem dX1_at_17 : decode cX1_at 17 = .ok (.iconst (-1), 1) := by decide +kernel
theorem dX1_at_18 : decode cX1_at 18 = .ok (.ireturn, 1) := by decide +kernel
theorem dX1_at_19 : decode cX1_at 19 = .ok (.aload_n 0, 1) := by decide +kernel
theorem dX1_at_20 : decode cX1_at 20 = .ok (.getfield 9, 3) := by decide +kernel
theorem dX1_at_23 : decode cX1_at 23 = .ok (.iload_n 1, 1) := by decide +kernel
theorem dX1_at_24 : decode cX1_at 24 = .ok (.bipush 12, 2) := by decide +kernel
theorem dX1_at_26 : decode cX1_at 26 = .ok (.imul, 1) := by decide +kernel
theorem dX1_at_27 : decode cX1_at 27 = .ok (.iload_n 2, 1) := by decide +kernel
theorem dX1_at_28 : decode cX1_at 28 = .ok (.iadd, 1) := by decide +kernel
theorem dX1_at_29 : decode cX1_at 29 = .ok (.iaload, 1) := by decide +kernel
theorem dX1_at_30 : decode cX1_at 30 = .ok (.ireturn, 1) := by decide +kernel
set_option maxRecDepth 20000 in
theorem ggX1_canStand_X1_innerStepsBut : GoodIn wsX1_canStand wsX1_innerStepsBut := goodIn_r _ [5, 6, 7, 8, 4, 9, 10, 11, 12, 13, 14, 15, 16, 17, 18, 19, 20] (by decide +kernel) (by decide +kernel)
set_option maxRecDepth 20000 in
theorem gX1_canStand_X1_innerStepsBut : GoodIn wsX1_canStand (wsV RX1 26 RX1 yX1_innerStepsBut wsX1_innerStepsBut) := goodIn_app (goodIn_of _ (by decide +kernel)) ggX1_canStand_X1_innerStepsBut
theorem dX1_canStand_0 : decode cX1_canStand 0 = .ok (.iload_n 3, 1) := by decide +kernel
theorem dX1_canStand_1 : decode cX1_canStand 1 = .ok (.ifCond .ge 5, 3) := by decide +kernel
theorem dX1_canStand_4 : decode cX1_canStand 4 = .ok (.iconst 0, 1) := by decide +kernel
theorem dX1_canStand_5 : decode cX1_canStand 5 = .ok (.ireturn, 1) := by decide +kernel
theorem dX1_canStand_6 : decode cX1_canStand 6 = .ok (.iload_n 3, 1) := by decide +kernel
theorem dX1_canStand_7 : decode cX1_canStand 7 = .ok (.sipush 1000, 3) := by decide +kernel
theorem dX1_canStand_10 : decode cX1_canStand 10 = .ok (.idiv, 1) := by decide +kernel
theorem dX1_canStand_11 : decode cX1_canStand 11 = .ok (.istore 4, 2) := by decide +kernel
theorem dX1_canStand_13 : decode cX1_canStand 13 = .ok (.iload_n 3, 1) := by decide +kernel
theorem dX1_canStand_14 : decode cX1_canStand 14 = .ok (.sipush 1000, 3) := by decide +kernel
theorem dX1_canStand_17 : decode cX1_canStand 17 = .ok (.irem, 1) := by decide +kernel
theorem dX1_canStand_18 : decode cX1_canStand 18 = .ok (.istore 5, 2) := by decide +kernel
theorem dX1_canStand_20 : decode cX1_canStand 20 = .ok (.iload 4, 2) := by decide +kernel
theorem dX1_canStand_22 : decode cX1_canStand 22 = .ok (.bipush 9, 2) := by decide +kernel
theorem dX1_canStand_24 : decode cX1_canStand 24 = .ok (.if_icmp .ne 25, 3) := by decide +kernel
theorem dX1_canStand_27 : decode cX1_canStand 27 = .ok (.iload 5, 2) := by decide +kernel
theorem dX1_canStand_29 : decode cX1_canStand 29 = .ok (.iload_n 1, 1) := by decide +kernel
theorem dX1_canStand_30 : decode cX1_canStand 30 = .ok (.if_icmp .ge 17, 3) := by decide +kernel
theorem dX1_canStand_33 : decode cX1_canStand 33 = .ok (.aload_n 0, 1) := by decide +kernel
theorem dX1_canStand_34 : decode cX1_canStand 34 = .ok (.iload_n 1, 1) := by decide +kernel
theorem dX1_canStand_35 : decode cX1_canStand 35 = .ok (.iload_n 2, 1) := by decide +kernel
theorem dX1_canStand_36 : decode cX1_canStand 36 = .ok (.invokevirtual 26, 3) := by decide +kernel
theorem dX1_canStand_39 : decode cX1_canStand 39 = .ok (.iconst 2, 1) := by decide +kernel
theorem dX1_canStand_40 : decode cX1_canStand 40 = .ok (.if_icmp .ge 7, 3) := by decide +kernel
theorem dX1_canStand_43 : decode cX1_canStand 43 = .ok (.iconst 1, 1) := by decide +kernel
theorem dX1_canStand_44 : decode cX1_canStand 44 = .ok (.goto 4, 3) := by decide +kernel
theorem dX1_canStand_47 : decode cX1_canStand 47 = .ok (.iconst 0, 1) := by decide +kernel
theorem dX1_canStand_48 : decode cX1_canStand 48 = .ok (.ireturn, 1) := by decide +kernel
theorem dX1_canStand_49 : decode cX1_canStand 49 = .ok (.iload 4, 2) := by decide +kernel
theorem dX1_canStand_51 : decode cX1_canStand 51 = .ok (.bipush 10, 2) := by decide +kernel
theorem dX1_canStand_53 : decode cX1_canStand 53 = .ok (.if_icmp .ne 15, 3) := by decide +kernel
theorem dX1_canStand_56 : decode cX1_canStand 56 = .ok (.iload 5, 2) := by decide +kernel
theorem dX1_canStand_58 : decode cX1_canStand 58 = .ok (.iconst 1, 1) := by decide +kernel
theorem dX1_canStand_59 : decode cX1_canStand 59 = .ok (.if_icmp .lt 7, 3) := by decide +kernel
theorem dX1_canStand_62 : decode cX1_canStand 62 = .ok (.iconst 1, 1) := by decide +kernel
theorem dX1_canStand_63 : decode cX1_canStand 63 = .ok (.goto 4, 3) := by decide +kernel
theorem dX1_canStand_66 : decode cX1_canStand 66 = .ok (.iconst 0, 1) := by decide +kernel
theorem dX1_canStand_67 : decode cX1_canStand 67 = .ok (.ireturn, 1) := by decide +kernel
theorem dX1_canStand_68 : decode cX1_canStand 68 = .ok (.iload 4, 2) := by decide +kernel
theorem dX1_canStand_70 : decode cX1_canStand 70 = .ok (.bipush 9, 2) := by decide +kernel
theorem dX1_canStand_72 : decode cX1_canStand 72 = .ok (.if_icmp .ge 7, 3) := by decide +kernel
theorem dX1_canStand_75 : decode cX1_canStand 75 = .ok (.iconst 1, 1) := by decide +kernel
theorem dX1_canStand_76 : decode cX1_canStand 76 = .ok (.goto 4, 3) := by decide +kernel
theorem dX1_canStand_79 : decode cX1_canStand 79 = .ok (.iconst 0, 1) := by decide +kernel
theorem dX1_canStand_80 : decode cX1_canStand 80 = .ok (.ireturn, 1) := by decide +kernel
set_option maxRecDepth 20000 in
theorem ggX1_innerStepsBut_X1_length : GoodIn wsX1_innerStepsBut wsX1_length := goodIn_r _ [5, 6, 7, 8, 9, 15, 16] (by decide +kernel) (by decide +kernel)
set_option maxRecDepth 20000 in
theorem gX1_innerStepsBut_X1_length : GoodIn wsX1_innerStepsBut (wsV RX1 30 RX1 yX1_length wsX1_length) := goodIn_app (goodIn_of _ (by decide +kernel)) ggX1_innerStepsBut_X1_length
set_option maxRecDepth 20000 in
theorem ggX1_innerStepsBut_X1_at : GoodIn wsX1_innerStepsBut wsX1_at := goodIn_r _ [13, 14, 7, 8, 9, 15, 16] (by decide +kernel) (by decide +kernel)
set_option maxRecDepth 20000 in
theorem gX1_innerStepsBut_X1_at : GoodIn wsX1_innerStepsBut (wsV RX1 34 RX1 yX1_at wsX1_at) := goodIn_app (goodIn_of _ (by decide +kernel)) ggX1_innerStepsBut_X1_at
theorem dX1_innerStepsBut_0 : decode cX1_innerStepsBut 0 = .ok (.iconst 0, 1) := by decide +kernel
theorem dX1_innerStepsBut_1 : decode cX1_innerStepsBut 1 = .ok (.istore_n 3, 1) := by decide +kernel
theorem dX1_innerStepsBut_2 : decode cX1_innerStepsBut 2 = .ok (.iconst 0, 1) := by decide +kernel
theorem dX1_innerStepsBut_3 : decode cX1_innerStepsBut 3 = .ok (.istore 4, 2) := by decide +kernel
theorem dX1_innerStepsBut_5 : decode cX1_innerStepsBut 5 = .ok (.iload 4, 2) := by decide +kernel
theorem dX1_innerStepsBut_7 : decode cX1_innerStepsBut 7 = .ok (.aload_n 0, 1) := by decide +kernel
theorem dX1_innerStepsBut_8 : decode cX1_innerStepsBut 8 = .ok (.iload_n 1, 1) := by decide +kernel
theorem dX1_innerStepsBut_9 : decode cX1_innerStepsBut 9 = .ok (.invokevirtual 30, 3) := by decide +kernel
theorem dX1_innerStepsBut_12 : decode cX1_innerStepsBut 12 = .ok (.if_icmp .ge 34, 3) := by decide +kernel
theorem dX1_innerStepsBut_15 : decode cX1_innerStepsBut 15 = .ok (.iload 4, 2) := by decide +kernel
theorem dX1_innerStepsBut_17 : decode cX1_innerStepsBut 17 = .ok (.iload_n 2, 1) := by decide +kernel
theorem dX1_innerStepsBut_18 : decode cX1_innerStepsBut 18 = .ok (.if_icmp .eq 22, 3) := by decide +kernel
theorem dX1_innerStepsBut_21 : decode cX1_innerStepsBut 21 = .ok (.aload_n 0, 1) := by decide +kernel
theorem dX1_innerStepsBut_22 : decode cX1_innerStepsBut 22 = .ok (.iload_n 1, 1) := by decide +kernel
theorem dX1_innerStepsBut_23 : decode cX1_innerStepsBut 23 = .ok (.iload 4, 2) := by decide +kernel
theorem dX1_innerStepsBut_25 : decode cX1_innerStepsBut 25 = .ok (.invokevirtual 34, 3) := by decide +kernel
theorem dX1_innerStepsBut_28 : decode cX1_innerStepsBut 28 = .ok (.sipush 1000, 3) := by decide +kernel
theorem dX1_innerStepsBut_31 : decode cX1_innerStepsBut 31 = .ok (.idiv, 1) := by decide +kernel
theorem dX1_innerStepsBut_32 : decode cX1_innerStepsBut 32 = .ok (.bipush 9, 2) := by decide +kernel
theorem dX1_innerStepsBut_34 : decode cX1_innerStepsBut 34 = .ok (.if_icmp .ne 6, 3) := by decide +kernel
theorem dX1_innerStepsBut_37 : decode cX1_innerStepsBut 37 = .ok (.iinc 3 1, 3) := by decide +kernel
theorem dX1_innerStepsBut_40 : decode cX1_innerStepsBut 40 = .ok (.iinc 4 1, 3) := by decide +kernel
theorem dX1_innerStepsBut_43 : decode cX1_innerStepsBut 43 = .ok (.goto (-38), 3) := by decide +kernel
theorem dX1_innerStepsBut_46 : decode cX1_innerStepsBut 46 = .ok (.iload_n 3, 1) := by decide +kernel
theorem dX1_innerStepsBut_47 : decode cX1_innerStepsBut 47 = .ok (.ireturn, 1) := by decide +kernel
set_option maxRecDepth 20000 in
theorem ggX1_runAll_X1_goThrough : GoodIn wsX1_runAll wsX1_goThrough := goodIn_r _ [5, 6, 7, 8, 9, 4, 10, 11, 12, 13, 14, 15, 16, 17, 18, 19, 20, 21, 22, 23, 24, 25, 26, 27, 28, 29, 30, 31, 32, 33, 34, 35, 36, 37, 38, 39, 40, 41, 42, 43, 44, 51, 52, 53] (by decide +kernel) (by decide +kernel)
set_option maxRecDepth 20000 in
theorem gX1_runAll_X1_goThrough : GoodIn wsX1_runAll (wsV RX1 37 RX1 yX1_goThrough wsX1_goThrough) := goodIn_app (goodIn_of _ (by decide +kernel)) ggX1_runAll_X1_goThrough
set_option maxRecDepth 20000 in
theorem ggX1_runAll_X2_put : GoodIn wsX1_runAll wsX2_put := goodIn_r _ [48, 36, 12, 13, 14, 49, 50, 53] (by decide +kernel) (by decide +kernel)
set_option maxRecDepth 20000 in
theorem gX1_runAll_X2_put : GoodIn wsX1_runAll (wsV RX1 41 RX2 yX2_put wsX2_put) := goodIn_app (goodIn_of _ (by decide +kernel)) ggX1_runAll_X2_put
theorem dX1_runAll_0 : decode cX1_runAll 0 = .ok (.iconst 0, 1) := by decide +kernel
theorem dX1_runAll_1 : decode cX1_runAll 1 = .ok (.istore_n 3, 1) := by decide +kernel
theorem dX1_runAll_2 : decode cX1_runAll 2 = .ok (.iload_n 3, 1) := by decide +kernel
theorem dX1_runAll_3 : decode cX1_runAll 3 = .ok (.sipush 256, 3) := by decide +kernel
theorem dX1_runAll_6 : decode cX1_runAll 6 = .ok (.if_icmp .ge 22, 3) := by decide +kernel
theorem dX1_runAll_9 : decode cX1_runAll 9 = .ok (.aload_n 2, 1) := by decide +kernel
theorem dX1_runAll_10 : decode cX1_runAll 10 = .ok (.iload_n 1, 1) := by decide +kernel
theorem dX1_runAll_11 : decode cX1_runAll 11 = .ok (.iload_n 3, 1) := by decide +kernel
theorem dX1_runAll_12 : decode cX1_runAll 12 = .ok (.aload_n 0, 1) := by decide +kernel
theorem dX1_runAll_13 : decode cX1_runAll 13 = .ok (.iload_n 1, 1) := by decide +kernel
theorem dX1_runAll_14 : decode cX1_runAll 14 = .ok (.iload_n 3, 1) := by decide +kernel
theorem dX1_runAll_15 : decode cX1_runAll 15 = .ok (.aload_n 2, 1) := by decide +kernel
theorem dX1_runAll_16 : decode cX1_runAll 16 = .ok (.invokevirtual 37, 3) := by decide +kernel
theorem dX1_runAll_19 : decode cX1_runAll 19 = .ok (.invokevirtual 41, 3) := by decide +kernel
theorem dX1_runAll_22 : decode cX1_runAll 22 = .ok (.iinc 3 1, 3) := by decide +kernel
theorem dX1_runAll_25 : decode cX1_runAll 25 = .ok (.goto (-23), 3) := by decide +kernel
theorem dX1_runAll_28 : decode cX1_runAll 28 = .ok (.return_, 1) := by decide +kernel
set_option maxRecDepth 20000 in
theorem ggX1_goThrough_X1_length : GoodIn wsX1_goThrough wsX1_length := goodIn_r _ [6, 7, 8, 9, 10, 41, 42] (by decide +kernel) (by decide +kernel)
set_option maxRecDepth 20000 in
theorem gX1_goThrough_X1_length : GoodIn wsX1_goThrough (wsV RX1 30 RX1 yX1_length wsX1_length) := goodIn_app (goodIn_of _ (by decide +kernel)) ggX1_goThrough_X1_length
set_option maxRecDepth 20000 in
theorem ggX1_goThrough_X1_at : GoodIn wsX1_goThrough wsX1_at := goodIn_r _ [14, 15, 8, 9, 10, 41, 42] (by decide +kernel) (by decide +kernel)
set_option maxRecDepth 20000 in
theorem gX1_goThrough_X1_at : GoodIn wsX1_goThrough (wsV RX1 34 RX1 yX1_at wsX1_at) := goodIn_app (goodIn_of _ (by decide +kernel)) ggX1_goThrough_X1_at
set_option maxRecDepth 20000 in
theorem ggX1_goThrough_X1_after : GoodIn wsX1_goThrough wsX1_after := goodIn_r _ [18, 19, 20, 21, 22, 23, 24, 25, 1, 26, 27, 28, 29, 30, 31, 32, 33, 34, 35, 36, 43] (by decide +kernel) (by decide +kernel)
set_option maxRecDepth 20000 in
theorem gX1_goThrough_X1_after : GoodIn wsX1_goThrough (va_wsS RX1 44 yX1_after wsX1_after) := goodIn_app (goodIn_of _ (by decide +kernel)) ggX1_goThrough_X1_after
set_option maxRecDepth 20000 in
theorem ggX1_goThrough_X3_isWithinLimit : GoodIn wsX1_goThrough wsX3_isWithinLimit := goodIn_r _ [38, 39, 40] (by decide +kernel) (by decide +kernel)
set_option maxRecDepth 20000 in
theorem gX1_goThrough_X3_isWithinLimit_n48 : GoodIn wsX1_goThrough (wsX3_isWithinLimit) := ggX1_goThrough_X3_isWithinLimit
theorem dX1_goThrough_0 : decode cX1_goThrough 0 = .ok (.iconst 0, 1) := by decide +kernel
theorem dX1_goThrough_1 : decode cX1_goThrough 1 = .ok (.istore 4, 2) := by decide +kernel
theorem dX1_goThrough_3 : decode cX1_goThrough 3 = .ok (.iconst 0, 1) := by decide +kernel
theorem dX1_goThrough_4 : decode cX1_goThrough 4 = .ok (.istore 5, 2) := by decide +kernel
theorem dX1_goThrough_6 : decode cX1_goThrough 6 = .ok (.aload_n 0, 1) := by decide +kernel
theorem dX1_goThrough_7 : decode cX1_goThrough 7 = .ok (.iload_n 1, 1) := by decide +kernel
theorem dX1_goThrough_8 : decode cX1_goThrough 8 = .ok (.invokevirtual 30, 3) := by decide +kernel
theorem dX1_goThrough_11 : decode cX1_goThrough 11 = .ok (.istore 6, 2) := by decide +kernel
theorem dX1_goThrough_13 : decode cX1_goThrough 13 = .ok (.iconst 0, 1) := by decide +kernel
theorem dX1_goThrough_14 : decode cX1_goThrough 14 = .ok (.istore 7, 2) := by decide +kernel
theorem dX1_goThrough_16 : decode cX1_goThrough 16 = .ok (.iload 7, 2) := by decide +kernel
theorem dX1_goThrough_18 : decode cX1_goThrough 18 = .ok (.iload 6, 2) := by decide +kernel
theorem dX1_goThrough_20 : decode cX1_goThrough 20 = .ok (.if_icmp .ge 87, 3) := by decide +kernel
theorem dX1_goThrough_23 : decode cX1_goThrough 23 = .ok (.aload_n 0, 1) := by decide +kernel
theorem dX1_goThrough_24 : decode cX1_goThrough 24 = .ok (.iload_n 1, 1) := by decide +kernel
theorem dX1_goThrough_25 : decode cX1_goThrough 25 = .ok (.iload 7, 2) := by decide +kernel
theorem dX1_goThrough_27 : decode cX1_goThrough 27 = .ok (.invokevirtual 34, 3) := by decide +kernel
theorem dX1_goThrough_30 : decode cX1_goThrough 30 = .ok (.istore 8, 2) := by decide +kernel
theorem dX1_goThrough_32 : decode cX1_goThrough 32 = .ok (.iload 5, 2) := by decide +kernel
theorem dX1_goThrough_34 : decode cX1_goThrough 34 = .ok (.ifCond .eq 9, 3) := by decide +kernel
theorem dX1_goThrough_37 : decode cX1_goThrough 37 = .ok (.iconst 0, 1) := by decide +kernel
theorem dX1_goThrough_38 : decode cX1_goThrough 38 = .ok (.istore 5, 2) := by decide +kernel
theorem dX1_goThrough_40 : decode cX1_goThrough 40 = .ok (.goto 61, 3) := by decide +kernel
theorem dX1_goThrough_43 : decode cX1_goThrough 43 = .ok (.iload 8, 2) := by decide +kernel
theorem dX1_goThrough_45 : decode cX1_goThrough 45 = .ok (.sipush 1000, 3) := by decide +kernel
theorem dX1_goThrough_48 : decode cX1_goThrough 48 = .ok (.idiv, 1) := by decide +kernel
theorem dX1_goThrough_49 : decode cX1_goThrough 49 = .ok (.bipush 7, 2) := by decide +kernel
theorem dX1_goThrough_51 : decode cX1_goThrough 51 = .ok (.if_icmp .ne 28, 3) := by decide +kernel
theorem dX1_goThrough_54 : decode cX1_goThrough 54 = .ok (.iload 4, 2) := by decide +kernel
theorem dX1_goThrough_56 : decode cX1_goThrough 56 = .ok (.iload 8, 2) := by decide +kernel
theorem dX1_goThrough_58 : decode cX1_goThrough 58 = .ok (.sipush 1000, 3) := by decide +kernel
theorem dX1_goThrough_61 : decode cX1_goThrough 61 = .ok (.irem, 1) := by decide +kernel
theorem dX1_goThrough_62 : decode cX1_goThrough 62 = .ok (.sipush 500, 3) := by decide +kernel
theorem dX1_goThrough_65 : decode cX1_goThrough 65 = .ok (.isub, 1) := by decide +kernel
theorem dX1_goThrough_66 : decode cX1_goThrough 66 = .ok (.if_icmp .ge 7, 3) := by decide +kernel
theorem dX1_goThrough_69 : decode cX1_goThrough 69 = .ok (.iconst 1, 1) := by decide +kernel
theorem dX1_goThrough_70 : decode cX1_goThrough 70 = .ok (.goto 4, 3) := by decide +kernel
theorem dX1_goThrough_73 : decode cX1_goThrough 73 = .ok (.iconst 0, 1) := by decide +kernel
theorem dX1_goThrough_74 : decode cX1_goThrough 74 = .ok (.istore 5, 2) := by decide +kernel
theorem dX1_goThrough_76 : decode cX1_goThrough 76 = .ok (.goto 25, 3) := by decide +kernel
theorem dX1_goThrough_79 : decode cX1_goThrough 79 = .ok (.iload 8, 2) := by decide +kernel
theorem dX1_goThrough_81 : decode cX1_goThrough 81 = .ok (.iload 4, 2) := by decide +kernel
theorem dX1_goThrough_83 : decode cX1_goThrough 83 = .ok (.iload_n 2, 1) := by decide +kernel
theorem dX1_goThrough_84 : decode cX1_goThrough 84 = .ok (.aload_n 3, 1) := by decide +kernel
theorem dX1_goThrough_85 : decode cX1_goThrough 85 = .ok (.invokestatic 44, 3) := by decide +kernel
theorem dX1_goThrough_88 : decode cX1_goThrough 88 = .ok (.istore 4, 2) := by decide +kernel
theorem dX1_goThrough_90 : decode cX1_goThrough 90 = .ok (.iload 4, 2) := by decide +kernel
theorem dX1_goThrough_92 : decode cX1_goThrough 92 = .ok (.invokestatic 48, 3) := by decide +kernel
theorem dX1_goThrough_95 : decode cX1_goThrough 95 = .ok (.ifCond .ne 6, 3) := by decide +kernel
theorem dX1_goThrough_98 : decode cX1_goThrough 98 = .ok (.ldc 51, 2) := by decide +kernel
theorem dX1_goThrough_100 : decode cX1_goThrough 100 = .ok (.ireturn, 1) := by decide +kernel
theorem dX1_goThrough_101 : decode cX1_goThrough 101 = .ok (.iinc 7 1, 3) := by decide +kernel
theorem dX1_goThrough_104 : decode cX1_goThrough 104 = .ok (.goto (-88), 3) := by decide +kernel
theorem dX1_goThrough_107 : decode cX1_goThrough 107 = .ok (.iload 4, 2) := by decide +kernel
theorem dX1_goThrough_109 : decode cX1_goThrough 109 = .ok (.ireturn, 1) := by decide +kernel
set_option maxRecDepth 20000 in
theorem ggX1_after_X2_given : GoodIn wsX1_after wsX2_given := goodIn_r _ [13, 14, 15, 20] (by decide +kernel) (by decide +kernel)
set_option maxRecDepth 20000 in
theorem gX1_after_X2_given : GoodIn wsX1_after (wsV RX1 60 RX2 yX2_given wsX2_given) := goodIn_app (goodIn_of _ (by decide +kernel)) ggX1_after_X2_given
set_option maxRecDepth 20000 in
theorem ggX1_after_J9_floorMod_7cf53 : GoodIn wsX1_after wsJ9_floorMod_7cf53 := goodIn_r _ [19] (by decide +kernel) (by decide +kernel)
set_option maxRecDepth 20000 in
theorem gX1_after_J9_floorMod_7cf53 : GoodIn wsX1_after (va_wsS RX1 63 yJ9_floorMod_7cf53 wsJ9_floorMod_7cf53) := goodIn_app (goodIn_of _ (by decide +kernel)) ggX1_after_J9_floorMod_7cf53
theorem dX1_after_0 : decode cX1_after 0 = .ok (.iload_n 0, 1) := by decide +kernel
theorem dX1_after_1 : decode cX1_after 1 = .ok (.sipush 1000, 3) := by decide +kernel
theorem dX1_after_4 : decode cX1_after 4 = .ok (.irem, 1) := by decide +kernel
theorem dX1_after_5 : decode cX1_after 5 = .ok (.istore 4, 2) := by decide +kernel
theorem dX1_after_7 : decode cX1_after 7 = .ok (.iload 4, 2) := by decide +kernel
theorem dX1_after_9 : decode cX1_after 9 = .ok (.sipush 500, 3) := by decide +kernel
theorem dX1_after_12 : decode cX1_after 12 = .ok (.isub, 1) := by decide +kernel
theorem dX1_after_13 : decode cX1_after 13 = .ok (.istore 5, 2) := by decide +kernel
theorem dX1_after_15 : decode cX1_after 15 = .ok (.iload_n 0, 1) := by decide +kernel
theorem dX1_after_16 : decode cX1_after 16 = .ok (.sipush 1000, 3) := by decide +kernel
theorem dX1_after_19 : decode cX1_after 19 = .ok (.idiv, 1) := by decide +kernel
theorem dX1_after_20 : decode cX1_after 20 = .ok (.tableswitch 135 0 10 #[60, 63, 68, 78, 88, 93, 100, 135, 107, 110, 118], 60) := by decide +kernel
theorem dX1_after_80 : decode cX1_after 80 = .ok (.iload 5, 2) := by decide +kernel
theorem dX1_after_82 : decode cX1_after 82 = .ok (.ireturn, 1) := by decide +kernel
theorem dX1_after_83 : decode cX1_after 83 = .ok (.iload_n 1, 1) := by decide +kernel
theorem dX1_after_84 : decode cX1_after 84 = .ok (.iload 5, 2) := by decide +kernel
theorem dX1_after_86 : decode cX1_after 86 = .ok (.iadd, 1) := by decide +kernel
theorem dX1_after_87 : decode cX1_after 87 = .ok (.ireturn, 1) := by decide +kernel
theorem dX1_after_88 : decode cX1_after 88 = .ok (.iload_n 1, 1) := by decide +kernel
theorem dX1_after_89 : decode cX1_after 89 = .ok (.iload 5, 2) := by decide +kernel
theorem dX1_after_91 : decode cX1_after 91 = .ok (.iload_n 2, 1) := by decide +kernel
theorem dX1_after_92 : decode cX1_after 92 = .ok (.bipush 16, 2) := by decide +kernel
theorem dX1_after_94 : decode cX1_after 94 = .ok (.idiv, 1) := by decide +kernel
theorem dX1_after_95 : decode cX1_after 95 = .ok (.imul, 1) := by decide +kernel
theorem dX1_after_96 : decode cX1_after 96 = .ok (.iadd, 1) := by decide +kernel
theorem dX1_after_97 : decode cX1_after 97 = .ok (.ireturn, 1) := by decide +kernel
theorem dX1_after_98 : decode cX1_after 98 = .ok (.iload_n 1, 1) := by decide +kernel
theorem dX1_after_99 : decode cX1_after 99 = .ok (.iload 5, 2) := by decide +kernel
theorem dX1_after_101 : decode cX1_after 101 = .ok (.iload_n 2, 1) := by decide +kernel
theorem dX1_after_102 : decode cX1_after 102 = .ok (.bipush 16, 2) := by decide +kernel
theorem dX1_after_104 : decode cX1_after 104 = .ok (.irem, 1) := by decide +kernel
theorem dX1_after_105 : decode cX1_after 105 = .ok (.imul, 1) := by decide +kernel
theorem dX1_after_106 : decode cX1_after 106 = .ok (.iadd, 1) := by decide +kernel
theorem dX1_after_107 : decode cX1_after 107 = .ok (.ireturn, 1) := by decide +kernel
theorem dX1_after_108 : decode cX1_after 108 = .ok (.iload_n 1, 1) := by decide +kernel
theorem dX1_after_109 : decode cX1_after 109 = .ok (.iload 5, 2) := by decide +kernel
theorem dX1_after_111 : decode cX1_after 111 = .ok (.imul, 1) := by decide +kernel
theorem dX1_after_112 : decode cX1_after 112 = .ok (.ireturn, 1) := by decide +kernel
theorem dX1_after_113 : decode cX1_after 113 = .ok (.iload_n 1, 1) := by decide +kernel
theorem dX1_after_114 : decode cX1_after 114 = .ok (.iload 5, 2) := by decide +kernel
theorem dX1_after_116 : decode cX1_after 116 = .ok (.invokestatic 52, 3) := by decide +kernel
theorem dX1_after_119 : decode cX1_after 119 = .ok (.ireturn, 1) := by decide +kernel
theorem dX1_after_120 : decode cX1_after 120 = .ok (.iload_n 1, 1) := by decide +kernel
theorem dX1_after_121 : decode cX1_after 121 = .ok (.iload 5, 2) := by decide +kernel
theorem dX1_after_123 : decode cX1_after 123 = .ok (.invokestatic 57, 3) := by decide +kernel
theorem dX1_after_126 : decode cX1_after 126 = .ok (.ireturn, 1) := by decide +kernel
theorem dX1_after_127 : decode cX1_after 127 = .ok (.ldc 51, 2) := by decide +kernel
theorem dX1_after_129 : decode cX1_after 129 = .ok (.ireturn, 1) := by decide +kernel
theorem dX1_after_130 : decode cX1_after 130 = .ok (.aload_n 3, 1) := by decide +kernel
theorem dX1_after_131 : decode cX1_after 131 = .ok (.iload 4, 2) := by decide +kernel
theorem dX1_after_133 : decode cX1_after 133 = .ok (.iload_n 2, 1) := by decide +kernel
theorem dX1_after_134 : decode cX1_after 134 = .ok (.invokevirtual 60, 3) := by decide +kernel
theorem dX1_after_137 : decode cX1_after 137 = .ok (.ireturn, 1) := by decide +kernel
theorem dX1_after_138 : decode cX1_after 138 = .ok (.iload 4, 2) := by decide +kernel
theorem dX1_after_140 : decode cX1_after 140 = .ok (.ifCond .le 12, 3) := by decide +kernel
theorem dX1_after_143 : decode cX1_after 143 = .ok (.iload_n 1, 1) := by decide +kernel
theorem dX1_after_144 : decode cX1_after 144 = .ok (.iload 4, 2) := by decide +kernel
theorem dX1_after_146 : decode cX1_after 146 = .ok (.invokestatic 63, 3) := by decide +kernel
theorem dX1_after_149 : decode cX1_after 149 = .ok (.goto 5, 3) := by decide +kernel
theorem dX1_after_152 : decode cX1_after 152 = .ok (.ldc 51, 2) := by decide +kernel
theorem dX1_after_154 : decode cX1_after 154 = .ok (.ireturn, 1) := by decide +kernel
theorem dX1_after_155 : decode cX1_after 155 = .ok (.ldc 51, 2) := by decide +kernel
theorem dX1_after_157 : decode cX1_after 157 = .ok (.ireturn, 1) := by decide +kernel
theorem dX2_init_0 : decode cX2_init 0 = .ok (.aload_n 0, 1) := by decide +kernel
theorem dX2_init_1 : decode cX2_init 1 = .ok (.invokespecial 3, 3) := by decide +kernel
theorem dX2_init_4 : decode cX2_init 4 = .ok (.aload_n 0, 1) := by decide +kernel
theorem dX2_init_5 : decode cX2_init 5 = .ok (.sipush 1536, 3) := by decide +kernel
theorem dX2_init_8 : decode cX2_init 8 = .ok (.newarray .int, 2) := by decide +kernel
theorem dX2_init_10 : decode cX2_init 10 = .ok (.putfield 9, 3) := by decide +kernel
theorem dX2_init_13 : decode cX2_init 13 = .ok (.return_, 1) := by decide +kernel
set_option maxRecDepth 20000 in
theorem ggX2_copy_X2_init : GoodIn wsX2_copy wsX2_init := goodIn_r _ [11, 12, 13, 14, 15, 4, 16] (by decide +kernel) (by decide +kernel)
set_option maxRecDepth 20000 in
theorem gX2_copy_X2_init : GoodIn wsX2_copy (wsX2_init) := ggX2_copy_X2_init
theorem dX2_copy_0 : decode cX2_copy 0 = .ok (.new 10, 3) := by decide +kernel
theorem dX2_copy_3 : decode cX2_copy 3 = .ok (.dup, 1) := by decide +kernel
theorem dX2_copy_4 : decode cX2_copy 4 = .ok (.invokespecial 15, 3) := by decide +kernel
theorem dX2_copy_7 : decode cX2_copy 7 = .ok (.astore_n 1, 1) := by decide +kernel
theorem dX2_copy_8 : decode cX2_copy 8 = .ok (.aload_n 0, 1) := by decide +kernel
theorem dX2_copy_9 : decode cX2_copy 9 = .ok (.getfield 9, 3) := by decide +kernel
theorem dX2_copy_12 : decode cX2_copy 12 = .ok (.iconst 0, 1) := by decide +kernel
theorem dX2_copy_13 : decode cX2_copy 13 = .ok (.aload_n 1, 1) := by decide +kernel
theorem dX2_copy_14 : decode cX2_copy 14 = .ok (.getfield 9, 3) := by decide +kernel
theorem dX2_copy_17 : decode cX2_copy 17 = .ok (.iconst 0, 1) := by decide +kernel
theorem dX2_copy_18 : decode cX2_copy 18 = .ok (.aload_n 0, 1) := by decide +kernel
theorem dX2_copy_19 : decode cX2_copy 19 = .ok (.getfield 9, 3) := by decide +kernel
theorem dX2_copy_22 : decode cX2_copy 22 = .ok (.arraylength, 1) := by decide +kernel
theorem dX2_copy_23 : decode cX2_copy 23 = .ok (.invokestatic 16, 3) := by decide +kernel
theorem dX2_copy_26 : decode cX2_copy 26 = .ok (.aload_n 1, 1) := by decide +kernel
theorem dX2_copy_27 : decode cX2_copy 27 = .ok (.areturn, 1) := by decide +kernel
set_option maxRecDepth 20000 in
theorem ggX2_put_X3_isFunction : GoodIn wsX2_put wsX3_isFunction := goodIn_r _ [4] (by decide +kernel) (by decide +kernel)
set_option maxRecDepth 20000 in
theorem gX2_put_X3_isFunction_n22 : GoodIn wsX2_put (wsX3_isFunction) := ggX2_put_X3_isFunction
set_option maxRecDepth 20000 in
theorem ggX2_put_X3_isRun : GoodIn wsX2_put wsX3_isRun := goodIn_r _ [6] (by decide +kernel) (by decide +kernel)
set_option maxRecDepth 20000 in
theorem gX2_put_X3_isRun_n26 : GoodIn wsX2_put (wsX3_isRun) := ggX2_put_X3_isRun
theorem dX2_put_0 : decode cX2_put 0 = .ok (.iload_n 1, 1) := by decide +kernel
theorem dX2_put_1 : decode cX2_put 1 = .ok (.invokestatic 22, 3) := by decide +kernel
theorem dX2_put_4 : decode cX2_put 4 = .ok (.ifCond .eq 23, 3) := by decide +kernel
theorem dX2_put_7 : decode cX2_put 7 = .ok (.iload_n 2, 1) := by decide +kernel
theorem dX2_put_8 : decode cX2_put 8 = .ok (.invokestatic 26, 3) := by decide +kernel
theorem dX2_put_11 : decode cX2_put 11 = .ok (.ifCond .eq 16, 3) := by decide +kernel
theorem dX2_put_14 : decode cX2_put 14 = .ok (.aload_n 0, 1) := by decide +kernel
theorem dX2_put_15 : decode cX2_put 15 = .ok (.getfield 9, 3) := by decide +kernel
theorem dX2_put_18 : decode cX2_put 18 = .ok (.iload_n 1, 1) := by decide +kernel
theorem dX2_put_19 : decode cX2_put 19 = .ok (.sipush 256, 3) := by decide +kernel
theorem dX2_put_22 : decode cX2_put 22 = .ok (.imul, 1) := by decide +kernel
theorem dX2_put_23 : decode cX2_put 23 = .ok (.iload_n 2, 1) := by decide +kernel
theorem dX2_put_24 : decode cX2_put 24 = .ok (.iadd, 1) := by decide +kernel
theorem dX2_put_25 : decode cX2_put 25 = .ok (.iload_n 3, 1) := by decide +kernel
theorem dX2_put_26 : decode cX2_put 26 = .ok (.iastore, 1) := by decide +kernel
theorem dX2_put_27 : decode cX2_put 27 = .ok (.return_, 1) := by decide +kernel
theorem dX2_given_0 : decode cX2_given 0 = .ok (.iload_n 1, 1) := by decide +kernel
theorem dX2_given_1 : decode cX2_given 1 = .ok (.ifCond .lt 20, 3) := by decide +kernel
theorem dX2_given_4 : decode cX2_given 4 = .ok (.iload_n 1, 1) := by decide +kernel
theorem dX2_given_5 : decode cX2_given 5 = .ok (.bipush 6, 2) := by decide +kernel
theorem dX2_given_7 : decode cX2_given 7 = .ok (.if_icmp .ge 14, 3) := by decide +kernel
theorem dX2_given_10 : decode cX2_given 10 = .ok (.iload_n 2, 1) := by decide +kernel
theorem dX2_given_11 : decode cX2_given 11 = .ok (.ifCond .lt 10, 3) := by decide +kernel
theorem dX2_given_14 : decode cX2_given 14 = .ok (.iload_n 2, 1) := by decide +kernel
theorem dX2_given_15 : decode cX2_given 15 = .ok (.sipush 256, 3) := by decide +kernel
theorem dX2_given_18 : decode cX2_given 18 = .ok (.if_icmp .lt 6, 3) := by decide +kernel
theorem dX2_given_21 : decode cX2_given 21 = .ok (.ldc 29, 2) := by decide +kernel
theorem dX2_given_23 : decode cX2_given 23 = .ok (.ireturn, 1) := by decide +kernel
theorem dX2_given_24 : decode cX2_given 24 = .ok (.aload_n 0, 1) := by decide +kernel
theorem dX2_given_25 : decode cX2_given 25 = .ok (.getfield 9, 3) := by decide +kernel
theorem dX2_given_28 : decode cX2_given 28 = .ok (.iload_n 1, 1) := by decide +kernel
theorem dX2_given_29 : decode cX2_given 29 = .ok (.sipush 256, 3) := by decide +kernel
theorem dX2_given_32 : decode cX2_given 32 = .ok (.imul, 1) := by decide +kernel
theorem dX2_given_33 : decode cX2_given 33 = .ok (.iload_n 2, 1) := by decide +kernel
theorem dX2_given_34 : decode cX2_given 34 = .ok (.iadd, 1) := by decide +kernel
theorem dX2_given_35 : decode cX2_given 35 = .ok (.iaload, 1) := by decide +kernel
theorem dX2_given_36 : decode cX2_given 36 = .ok (.ireturn, 1) := by decide +kernel
set_option maxRecDepth 20000 in
theorem ggX2_refusals_X2_given : GoodIn wsX2_refusals wsX2_given := goodIn_r _ [6, 1, 7, 8] (by decide +kernel) (by decide +kernel)
set_option maxRecDepth 20000 in
theorem gX2_refusals_X2_given : GoodIn wsX2_refusals (wsV RX2 30 RX2 yX2_given wsX2_given) := goodIn_app (goodIn_of _ (by decide +kernel)) ggX2_refusals_X2_given
theorem dX2_refusals_0 : decode cX2_refusals 0 = .ok (.iconst 0, 1) := by decide +kernel
theorem dX2_refusals_1 : decode cX2_refusals 1 = .ok (.istore_n 2, 1) := by decide +kernel
theorem dX2_refusals_2 : decode cX2_refusals 2 = .ok (.iconst 0, 1) := by decide +kernel
theorem dX2_refusals_3 : decode cX2_refusals 3 = .ok (.istore_n 3, 1) := by decide +kernel
theorem dX2_refusals_4 : decode cX2_refusals 4 = .ok (.iload_n 3, 1) := by decide +kernel
theorem dX2_refusals_5 : decode cX2_refusals 5 = .ok (.sipush 256, 3) := by decide +kernel
theorem dX2_refusals_8 : decode cX2_refusals 8 = .ok (.if_icmp .ge 23, 3) := by decide +kernel
theorem dX2_refusals_11 : decode cX2_refusals 11 = .ok (.aload_n 0, 1) := by decide +kernel
theorem dX2_refusals_12 : decode cX2_refusals 12 = .ok (.iload_n 1, 1) := by decide +kernel
theorem dX2_refusals_13 : decode cX2_refusals 13 = .ok (.iload_n 3, 1) := by decide +kernel
theorem dX2_refusals_14 : decode cX2_refusals 14 = .ok (.invokevirtual 30, 3) := by decide +kernel
theorem dX2_refusals_17 : decode cX2_refusals 17 = .ok (.ldc 29, 2) := by decide +kernel
theorem dX2_refusals_19 : decode cX2_refusals 19 = .ok (.if_icmp .ne 6, 3) := by decide +kernel
theorem dX2_refusals_22 : decode cX2_refusals 22 = .ok (.iinc 2 1, 3) := by decide +kernel
theorem dX2_refusals_25 : decode cX2_refusals 25 = .ok (.iinc 3 1, 3) := by decide +kernel
theorem dX2_refusals_28 : decode cX2_refusals 28 = .ok (.goto (-24), 3) := by decide +kernel
theorem dX2_refusals_31 : decode cX2_refusals 31 = .ok (.iload_n 2, 1) := by decide +kernel
theorem dX2_refusals_32 : decode cX2_refusals 32 = .ok (.ireturn, 1) := by decide +kernel
set_option maxRecDepth 20000 in
theorem ggX2_least_X2_given : GoodIn wsX2_least wsX2_given := goodIn_r _ [6, 1, 7, 8] (by decide +kernel) (by decide +kernel)
set_option maxRecDepth 20000 in
theorem gX2_least_X2_given : GoodIn wsX2_least (wsV RX2 30 RX2 yX2_given wsX2_given) := goodIn_app (goodIn_of _ (by decide +kernel)) ggX2_least_X2_given
theorem dX2_least_0 : decode cX2_least 0 = .ok (.ldc 29, 2) := by decide +kernel
theorem dX2_least_2 : decode cX2_least 2 = .ok (.istore_n 2, 1) := by decide +kernel
theorem dX2_least_3 : decode cX2_least 3 = .ok (.iconst 0, 1) := by decide +kernel
theorem dX2_least_4 : decode cX2_least 4 = .ok (.istore_n 3, 1) := by decide +kernel
theorem dX2_least_5 : decode cX2_least 5 = .ok (.iload_n 3, 1) := by decide +kernel
theorem dX2_least_6 : decode cX2_least 6 = .ok (.sipush 256, 3) := by decide +kernel
theorem dX2_least_9 : decode cX2_least 9 = .ok (.if_icmp .ge 39, 3) := by decide +kernel
theorem dX2_least_12 : decode cX2_least 12 = .ok (.aload_n 0, 1) := by decide +kernel
theorem dX2_least_13 : decode cX2_least 13 = .ok (.iload_n 1, 1) := by decide +kernel
theorem dX2_least_14 : decode cX2_least 14 = .ok (.iload_n 3, 1) := by decide +kernel
theorem dX2_least_15 : decode cX2_least 15 = .ok (.invokevirtual 30, 3) := by decide +kernel
theorem dX2_least_18 : decode cX2_least 18 = .ok (.istore 4, 2) := by decide +kernel
theorem dX2_least_20 : decode cX2_least 20 = .ok (.iload 4, 2) := by decide +kernel
theorem dX2_least_22 : decode cX2_least 22 = .ok (.ldc 29, 2) := by decide +kernel
theorem dX2_least_24 : decode cX2_least 24 = .ok (.if_icmp .eq 18, 3) := by decide +kernel
theorem dX2_least_27 : decode cX2_least 27 = .ok (.iload_n 2, 1) := by decide +kernel
theorem dX2_least_28 : decode cX2_least 28 = .ok (.ldc 29, 2) := by decide +kernel
theorem dX2_least_30 : decode cX2_least 30 = .ok (.if_icmp .eq 9, 3) := by decide +kernel
theorem dX2_least_33 : decode cX2_least 33 = .ok (.iload 4, 2) := by decide +kernel
theorem dX2_least_35 : decode cX2_least 35 = .ok (.iload_n 2, 1) := by decide +kernel
theorem dX2_least_36 : decode cX2_least 36 = .ok (.if_icmp .ge 6, 3) := by decide +kernel
theorem dX2_least_39 : decode cX2_least 39 = .ok (.iload 4, 2) := by decide +kernel
theorem dX2_least_41 : decode cX2_least 41 = .ok (.istore_n 2, 1) := by decide +kernel
theorem dX2_least_42 : decode cX2_least 42 = .ok (.iinc 3 1, 3) := by decide +kernel
theorem dX2_least_45 : decode cX2_least 45 = .ok (.goto (-40), 3) := by decide +kernel
theorem dX2_least_48 : decode cX2_least 48 = .ok (.iload_n 2, 1) := by decide +kernel
theorem dX2_least_49 : decode cX2_least 49 = .ok (.ireturn, 1) := by decide +kernel
set_option maxRecDepth 20000 in
theorem ggX2_most_X2_given : GoodIn wsX2_most wsX2_given := goodIn_r _ [10, 1, 11, 12] (by decide +kernel) (by decide +kernel)
set_option maxRecDepth 20000 in
theorem gX2_most_X2_given : GoodIn wsX2_most (wsV RX2 30 RX2 yX2_given wsX2_given) := goodIn_app (goodIn_of _ (by decide +kernel)) ggX2_most_X2_given
theorem dX2_most_0 : decode cX2_most 0 = .ok (.ldc 29, 2) := by decide +kernel
theorem dX2_most_2 : decode cX2_most 2 = .ok (.istore_n 2, 1) := by decide +kernel
theorem dX2_most_3 : decode cX2_most 3 = .ok (.iconst 0, 1) := by decide +kernel
theorem dX2_most_4 : decode cX2_most 4 = .ok (.istore_n 3, 1) := by decide +kernel
theorem dX2_most_5 : decode cX2_most 5 = .ok (.iload_n 3, 1) := by decide +kernel
theorem dX2_most_6 : decode cX2_most 6 = .ok (.sipush 256, 3) := by decide +kernel
theorem dX2_most_9 : decode cX2_most 9 = .ok (.if_icmp .ge 20, 3) := by decide +kernel
theorem dX2_most_12 : decode cX2_most 12 = .ok (.iload_n 2, 1) := by decide +kernel
theorem dX2_most_13 : decode cX2_most 13 = .ok (.aload_n 0, 1) := by decide +kernel
theorem dX2_most_14 : decode cX2_most 14 = .ok (.iload_n 1, 1) := by decide +kernel
theorem dX2_most_15 : decode cX2_most 15 = .ok (.iload_n 3, 1) := by decide +kernel
theorem dX2_most_16 : decode cX2_most 16 = .ok (.invokevirtual 30, 3) := by decide +kernel
theorem dX2_most_19 : decode cX2_most 19 = .ok (.invokestatic 34, 3) := by decide +kernel
theorem dX2_most_22 : decode cX2_most 22 = .ok (.istore_n 2, 1) := by decide +kernel
theorem dX2_most_23 : decode cX2_most 23 = .ok (.iinc 3 1, 3) := by decide +kernel
theorem dX2_most_26 : decode cX2_most 26 = .ok (.goto (-21), 3) := by decide +kernel
theorem dX2_most_29 : decode cX2_most 29 = .ok (.iload_n 2, 1) := by decide +kernel
theorem dX2_most_30 : decode cX2_most 30 = .ok (.ireturn, 1) := by decide +kernel
set_option maxRecDepth 20000 in
theorem ggX2_greatestDivisor_X2_given : GoodIn wsX2_greatestDivisor wsX2_given := goodIn_r _ [10, 1, 11, 15] (by decide +kernel) (by decide +kernel)
set_option maxRecDepth 20000 in
theorem gX2_greatestDivisor_X2_given : GoodIn wsX2_greatestDivisor (wsV RX2 30 RX2 yX2_given wsX2_given) := goodIn_app (goodIn_of _ (by decide +kernel)) ggX2_greatestDivisor_X2_given
set_option maxRecDepth 20000 in
theorem ggX2_greatestDivisor_X2_commonDivisor : GoodIn wsX2_greatestDivisor wsX2_commonDivisor := goodIn_r _ [14] (by decide +kernel) (by decide +kernel)
set_option maxRecDepth 20000 in
theorem gX2_greatestDivisor_X2_commonDivisor : GoodIn wsX2_greatestDivisor (va_wsS RX2 43 yX2_commonDivisor wsX2_commonDivisor) := goodIn_app (goodIn_of _ (by decide +kernel)) ggX2_greatestDivisor_X2_commonDivisor
theorem dX2_greatestDivisor_0 : decode cX2_greatestDivisor 0 = .ok (.iconst 0, 1) := by decide +kernel
theorem dX2_greatestDivisor_1 : decode cX2_greatestDivisor 1 = .ok (.istore_n 2, 1) := by decide +kernel
theorem dX2_greatestDivisor_2 : decode cX2_greatestDivisor 2 = .ok (.iconst 0, 1) := by decide +kernel
theorem dX2_greatestDivisor_3 : decode cX2_greatestDivisor 3 = .ok (.istore_n 3, 1) := by decide +kernel
theorem dX2_greatestDivisor_4 : decode cX2_greatestDivisor 4 = .ok (.iload_n 3, 1) := by decide +kernel
theorem dX2_greatestDivisor_5 : decode cX2_greatestDivisor 5 = .ok (.sipush 256, 3) := by decide +kernel
theorem dX2_greatestDivisor_8 : decode cX2_greatestDivisor 8 = .ok (.if_icmp .ge 34, 3) := by decide +kernel
theorem dX2_greatestDivisor_11 : decode cX2_greatestDivisor 11 = .ok (.aload_n 0, 1) := by decide +kernel
theorem dX2_greatestDivisor_12 : decode cX2_greatestDivisor 12 = .ok (.iload_n 1, 1) := by decide +kernel
theorem dX2_greatestDivisor_13 : decode cX2_greatestDivisor 13 = .ok (.iload_n 3, 1) := by decide +kernel
theorem dX2_greatestDivisor_14 : decode cX2_greatestDivisor 14 = .ok (.invokevirtual 30, 3) := by decide +kernel
theorem dX2_greatestDivisor_17 : decode cX2_greatestDivisor 17 = .ok (.istore 4, 2) := by decide +kernel
theorem dX2_greatestDivisor_19 : decode cX2_greatestDivisor 19 = .ok (.iload 4, 2) := by decide +kernel
theorem dX2_greatestDivisor_21 : decode cX2_greatestDivisor 21 = .ok (.ldc 29, 2) := by decide +kernel
theorem dX2_greatestDivisor_23 : decode cX2_greatestDivisor 23 = .ok (.if_icmp .eq 13, 3) := by decide +kernel
theorem dX2_greatestDivisor_26 : decode cX2_greatestDivisor 26 = .ok (.iload 4, 2) := by decide +kernel
theorem dX2_greatestDivisor_28 : decode cX2_greatestDivisor 28 = .ok (.invokestatic 39, 3) := by decide +kernel
theorem dX2_greatestDivisor_31 : decode cX2_greatestDivisor 31 = .ok (.iload_n 2, 1) := by decide +kernel
theorem dX2_greatestDivisor_32 : decode cX2_greatestDivisor 32 = .ok (.invokestatic 43, 3) := by decide +kernel
theorem dX2_greatestDivisor_35 : decode cX2_greatestDivisor 35 = .ok (.istore_n 2, 1) := by decide +kernel
theorem dX2_greatestDivisor_36 : decode cX2_greatestDivisor 36 = .ok (.iinc 3 1, 3) := by decide +kernel
theorem dX2_greatestDivisor_39 : decode cX2_greatestDivisor 39 = .ok (.goto (-35), 3) := by decide +kernel
theorem dX2_greatestDivisor_42 : decode cX2_greatestDivisor 42 = .ok (.sipush 1000, 3) := by decide +kernel
theorem dX2_greatestDivisor_45 : decode cX2_greatestDivisor 45 = .ok (.istore_n 3, 1) := by decide +kernel
theorem dX2_greatestDivisor_46 : decode cX2_greatestDivisor 46 = .ok (.iload_n 3, 1) := by decide +kernel
theorem dX2_greatestDivisor_47 : decode cX2_greatestDivisor 47 = .ok (.iconst 1, 1) := by decide +kernel
theorem dX2_greatestDivisor_48 : decode cX2_greatestDivisor 48 = .ok (.if_icmp .le 17, 3) := by decide +kernel
theorem dX2_greatestDivisor_51 : decode cX2_greatestDivisor 51 = .ok (.iload_n 2, 1) := by decide +kernel
theorem dX2_greatestDivisor_52 : decode cX2_greatestDivisor 52 = .ok (.iload_n 3, 1) := by decide +kernel
theorem dX2_greatestDivisor_53 : decode cX2_greatestDivisor 53 = .ok (.irem, 1) := by decide +kernel
theorem dX2_greatestDivisor_54 : decode cX2_greatestDivisor 54 = .ok (.ifCond .ne 5, 3) := by decide +kernel
theorem dX2_greatestDivisor_57 : decode cX2_greatestDivisor 57 = .ok (.iload_n 3, 1) := by decide +kernel
theorem dX2_greatestDivisor_58 : decode cX2_greatestDivisor 58 = .ok (.ireturn, 1) := by decide +kernel
theorem dX2_greatestDivisor_59 : decode cX2_greatestDivisor 59 = .ok (.iinc 3 (-1), 3) := by decide +kernel
theorem dX2_greatestDivisor_62 : decode cX2_greatestDivisor 62 = .ok (.goto (-16), 3) := by decide +kernel
theorem dX2_greatestDivisor_65 : decode cX2_greatestDivisor 65 = .ok (.iconst 1, 1) := by decide +kernel
theorem dX2_greatestDivisor_66 : decode cX2_greatestDivisor 66 = .ok (.ireturn, 1) := by decide +kernel
theorem dX2_commonDivisor_0 : decode cX2_commonDivisor 0 = .ok (.iload_n 0, 1) := by decide +kernel
theorem dX2_commonDivisor_1 : decode cX2_commonDivisor 1 = .ok (.istore_n 2, 1) := by decide +kernel
theorem dX2_commonDivisor_2 : decode cX2_commonDivisor 2 = .ok (.iload_n 1, 1) := by decide +kernel
theorem dX2_commonDivisor_3 : decode cX2_commonDivisor 3 = .ok (.istore_n 3, 1) := by decide +kernel
theorem dX2_commonDivisor_4 : decode cX2_commonDivisor 4 = .ok (.iconst 0, 1) := by decide +kernel
theorem dX2_commonDivisor_5 : decode cX2_commonDivisor 5 = .ok (.istore 4, 2) := by decide +kernel
theorem dX2_commonDivisor_7 : decode cX2_commonDivisor 7 = .ok (.iload 4, 2) := by decide +kernel
theorem dX2_commonDivisor_9 : decode cX2_commonDivisor 9 = .ok (.bipush 64, 2) := by decide +kernel
theorem dX2_commonDivisor_11 : decode cX2_commonDivisor 11 = .ok (.if_icmp .ge 23, 3) := by decide +kernel
theorem dX2_commonDivisor_14 : decode cX2_commonDivisor 14 = .ok (.iload_n 3, 1) := by decide +kernel
theorem dX2_commonDivisor_15 : decode cX2_commonDivisor 15 = .ok (.ifCond .eq 19, 3) := by decide +kernel
theorem dX2_commonDivisor_18 : decode cX2_commonDivisor 18 = .ok (.iload_n 2, 1) := by decide +kernel
theorem dX2_commonDivisor_19 : decode cX2_commonDivisor 19 = .ok (.iload_n 3, 1) := by decide +kernel
theorem dX2_commonDivisor_20 : decode cX2_commonDivisor 20 = .ok (.irem, 1) := by decide +kernel
theorem dX2_commonDivisor_21 : decode cX2_commonDivisor 21 = .ok (.istore 5, 2) := by decide +kernel
theorem dX2_commonDivisor_23 : decode cX2_commonDivisor 23 = .ok (.iload_n 3, 1) := by decide +kernel
theorem dX2_commonDivisor_24 : decode cX2_commonDivisor 24 = .ok (.istore_n 2, 1) := by decide +kernel
theorem dX2_commonDivisor_25 : decode cX2_commonDivisor 25 = .ok (.iload 5, 2) := by decide +kernel
theorem dX2_commonDivisor_27 : decode cX2_commonDivisor 27 = .ok (.istore_n 3, 1) := by decide +kernel
theorem dX2_commonDivisor_28 : decode cX2_commonDivisor 28 = .ok (.iinc 4 1, 3) := by decide +kernel
theorem dX2_commonDivisor_31 : decode cX2_commonDivisor 31 = .ok (.goto (-24), 3) := by decide +kernel
theorem dX2_commonDivisor_34 : decode cX2_commonDivisor 34 = .ok (.iload_n 2, 1) := by decide +kernel
theorem dX2_commonDivisor_35 : decode cX2_commonDivisor 35 = .ok (.ireturn, 1) := by decide +kernel
set_option maxRecDepth 20000 in
theorem ggX2_refusesFrom_X2_firstRefusal : GoodIn wsX2_refusesFrom wsX2_firstRefusal := goodIn_r _ [6, 1, 7, 8, 9, 5, 10, 11, 16] (by decide +kernel) (by decide +kernel)
set_option maxRecDepth 20000 in
theorem gX2_refusesFrom_X2_firstRefusal : GoodIn wsX2_refusesFrom (wsV RX2 46 RX2 yX2_firstRefusal wsX2_firstRefusal) := goodIn_app (goodIn_of _ (by decide +kernel)) ggX2_refusesFrom_X2_firstRefusal
set_option maxRecDepth 20000 in
theorem ggX2_refusesFrom_X2_refusals : GoodIn wsX2_refusesFrom wsX2_refusals := goodIn_r _ [15, 1, 7, 8, 9, 5, 10, 11, 16] (by decide +kernel) (by decide +kernel)
set_option maxRecDepth 20000 in
theorem gX2_refusesFrom_X2_refusals : GoodIn wsX2_refusesFrom (wsV RX2 49 RX2 yX2_refusals wsX2_refusals) := goodIn_app (goodIn_of _ (by decide +kernel)) ggX2_refusesFrom_X2_refusals
theorem dX2_refusesFrom_0 : decode cX2_refusesFrom 0 = .ok (.aload_n 0, 1) := by decide +kernel
theorem dX2_refusesFrom_1 : decode cX2_refusesFrom 1 = .ok (.iload_n 1, 1) := by decide +kernel
theorem dX2_refusesFrom_2 : decode cX2_refusesFrom 2 = .ok (.invokevirtual 46, 3) := by decide +kernel
theorem dX2_refusesFrom_5 : decode cX2_refusesFrom 5 = .ok (.bipush 16, 2) := by decide +kernel
theorem dX2_refusesFrom_7 : decode cX2_refusesFrom 7 = .ok (.idiv, 1) := by decide +kernel
theorem dX2_refusesFrom_8 : decode cX2_refusesFrom 8 = .ok (.istore_n 2, 1) := by decide +kernel
theorem dX2_refusesFrom_9 : decode cX2_refusesFrom 9 = .ok (.aload_n 0, 1) := by decide +kernel
theorem dX2_refusesFrom_10 : decode cX2_refusesFrom 10 = .ok (.iload_n 1, 1) := by decide +kernel
theorem dX2_refusesFrom_11 : decode cX2_refusesFrom 11 = .ok (.invokevirtual 49, 3) := by decide +kernel
theorem dX2_refusesFrom_14 : decode cX2_refusesFrom 14 = .ok (.sipush 256, 3) := by decide +kernel
theorem dX2_refusesFrom_17 : decode cX2_refusesFrom 17 = .ok (.iload_n 2, 1) := by decide +kernel
theorem dX2_refusesFrom_18 : decode cX2_refusesFrom 18 = .ok (.bipush 16, 2) := by decide +kernel
theorem dX2_refusesFrom_20 : decode cX2_refusesFrom 20 = .ok (.imul, 1) := by decide +kernel
theorem dX2_refusesFrom_21 : decode cX2_refusesFrom 21 = .ok (.isub, 1) := by decide +kernel
theorem dX2_refusesFrom_22 : decode cX2_refusesFrom 22 = .ok (.if_icmp .ne 7, 3) := by decide +kernel
theorem dX2_refusesFrom_25 : decode cX2_refusesFrom 25 = .ok (.iload_n 2, 1) := by decide +kernel
theorem dX2_refusesFrom_26 : decode cX2_refusesFrom 26 = .ok (.goto 5, 3) := by decide +kernel
theorem dX2_refusesFrom_29 : decode cX2_refusesFrom 29 = .ok (.ldc 29, 2) := by decide +kernel
theorem dX2_refusesFrom_31 : decode cX2_refusesFrom 31 = .ok (.ireturn, 1) := by decide +kernel
set_option maxRecDepth 20000 in
theorem ggX2_firstRefusal_X2_given : GoodIn wsX2_firstRefusal wsX2_given := goodIn_r _ [6, 1, 7, 8] (by decide +kernel) (by decide +kernel)
set_option maxRecDepth 20000 in
theorem gX2_firstRefusal_X2_given : GoodIn wsX2_firstRefusal (wsV RX2 30 RX2 yX2_given wsX2_given) := goodIn_app (goodIn_of _ (by decide +kernel)) ggX2_firstRefusal_X2_given
theorem dX2_firstRefusal_0 : decode cX2_firstRefusal 0 = .ok (.iconst 0, 1) := by decide +kernel
theorem dX2_firstRefusal_1 : decode cX2_firstRefusal 1 = .ok (.istore_n 2, 1) := by decide +kernel
theorem dX2_firstRefusal_2 : decode cX2_firstRefusal 2 = .ok (.iload_n 2, 1) := by decide +kernel
theorem dX2_firstRefusal_3 : decode cX2_firstRefusal 3 = .ok (.sipush 256, 3) := by decide +kernel
theorem dX2_firstRefusal_6 : decode cX2_firstRefusal 6 = .ok (.if_icmp .ge 22, 3) := by decide +kernel
theorem dX2_firstRefusal_9 : decode cX2_firstRefusal 9 = .ok (.aload_n 0, 1) := by decide +kernel
theorem dX2_firstRefusal_10 : decode cX2_firstRefusal 10 = .ok (.iload_n 1, 1) := by decide +kernel
theorem dX2_firstRefusal_11 : decode cX2_firstRefusal 11 = .ok (.iload_n 2, 1) := by decide +kernel
theorem dX2_firstRefusal_12 : decode cX2_firstRefusal 12 = .ok (.invokevirtual 30, 3) := by decide +kernel
theorem dX2_firstRefusal_15 : decode cX2_firstRefusal 15 = .ok (.ldc 29, 2) := by decide +kernel
theorem dX2_firstRefusal_17 : decode cX2_firstRefusal 17 = .ok (.if_icmp .ne 5, 3) := by decide +kernel
theorem dX2_firstRefusal_20 : decode cX2_firstRefusal 20 = .ok (.iload_n 2, 1) := by decide +kernel
theorem dX2_firstRefusal_21 : decode cX2_firstRefusal 21 = .ok (.ireturn, 1) := by decide +kernel
theorem dX2_firstRefusal_22 : decode cX2_firstRefusal 22 = .ok (.iinc 2 1, 3) := by decide +kernel
theorem dX2_firstRefusal_25 : decode cX2_firstRefusal 25 = .ok (.goto (-23), 3) := by decide +kernel
theorem dX2_firstRefusal_28 : decode cX2_firstRefusal 28 = .ok (.sipush 256, 3) := by decide +kernel
theorem dX2_firstRefusal_31 : decode cX2_firstRefusal 31 = .ok (.ireturn, 1) := by decide +kernel
theorem dJ9_floorMod_7cf53_0 : decode cJ9_floorMod_7cf53 0 = .ok (.iload_n 0, 1) := by decide +kernel
theorem dJ9_floorMod_7cf53_1 : decode cJ9_floorMod_7cf53 1 = .ok (.iload_n 1, 1) := by decide +kernel
theorem dJ9_floorMod_7cf53_2 : decode cJ9_floorMod_7cf53 2 = .ok (.irem, 1) := by decide +kernel
theorem dJ9_floorMod_7cf53_3 : decode cJ9_floorMod_7cf53 3 = .ok (.istore_n 2, 1) := by decide +kernel
theorem dJ9_floorMod_7cf53_4 : decode cJ9_floorMod_7cf53 4 = .ok (.iload_n 0, 1) := by decide +kernel
theorem dJ9_floorMod_7cf53_5 : decode cJ9_floorMod_7cf53 5 = .ok (.iload_n 1, 1) := by decide +kernel
theorem dJ9_floorMod_7cf53_6 : decode cJ9_floorMod_7cf53 6 = .ok (.ixor, 1) := by decide +kernel
theorem dJ9_floorMod_7cf53_7 : decode cJ9_floorMod_7cf53 7 = .ok (.ifCond .ge 11, 3) := by decide +kernel
theorem dJ9_floorMod_7cf53_10 : decode cJ9_floorMod_7cf53 10 = .ok (.iload_n 2, 1) := by decide +kernel
theorem dJ9_floorMod_7cf53_11 : decode cJ9_floorMod_7cf53 11 = .ok (.ifCond .eq 7, 3) := by decide +kernel
theorem dJ9_floorMod_7cf53_14 : decode cJ9_floorMod_7cf53 14 = .ok (.iload_n 2, 1) := by decide +kernel
theorem dJ9_floorMod_7cf53_15 : decode cJ9_floorMod_7cf53 15 = .ok (.iload_n 1, 1) := by decide +kernel
theorem dJ9_floorMod_7cf53_16 : decode cJ9_floorMod_7cf53 16 = .ok (.iadd, 1) := by decide +kernel
theorem dJ9_floorMod_7cf53_17 : decode cJ9_floorMod_7cf53 17 = .ok (.ireturn, 1) := by decide +kernel
theorem dJ9_floorMod_7cf53_18 : decode cJ9_floorMod_7cf53 18 = .ok (.iload_n 2, 1) := by decide +kernel
theorem dJ9_floorMod_7cf53_19 : decode cJ9_floorMod_7cf53 19 = .ok (.ireturn, 1) := by decide +kernel
theorem dJ9_abs_0f7a4_0 : decode cJ9_abs_0f7a4 0 = .ok (.iload_n 0, 1) := by decide +kernel
theorem dJ9_abs_0f7a4_1 : decode cJ9_abs_0f7a4 1 = .ok (.ifCond .ge 8, 3) := by decide +kernel
theorem dJ9_abs_0f7a4_4 : decode cJ9_abs_0f7a4 4 = .ok (.iload_n 0, 1) := by decide +kernel
theorem dJ9_abs_0f7a4_5 : decode cJ9_abs_0f7a4 5 = .ok (.ineg, 1) := by decide +kernel
theorem dJ9_abs_0f7a4_6 : decode cJ9_abs_0f7a4 6 = .ok (.goto 4, 3) := by decide +kernel
theorem dJ9_abs_0f7a4_9 : decode cJ9_abs_0f7a4 9 = .ok (.iload_n 0, 1) := by decide +kernel
theorem dJ9_abs_0f7a4_10 : decode cJ9_abs_0f7a4 10 = .ok (.ireturn, 1) := by decide +kernel
theorem dJ9_max_7cf53_0 : decode cJ9_max_7cf53 0 = .ok (.iload_n 0, 1) := by decide +kernel
theorem dJ9_max_7cf53_1 : decode cJ9_max_7cf53 1 = .ok (.iload_n 1, 1) := by decide +kernel
theorem dJ9_max_7cf53_2 : decode cJ9_max_7cf53 2 = .ok (.if_icmp .lt 7, 3) := by decide +kernel
theorem dJ9_max_7cf53_5 : decode cJ9_max_7cf53 5 = .ok (.iload_n 0, 1) := by decide +kernel
theorem dJ9_max_7cf53_6 : decode cJ9_max_7cf53 6 = .ok (.goto 4, 3) := by decide +kernel
theorem dJ9_max_7cf53_9 : decode cJ9_max_7cf53 9 = .ok (.iload_n 1, 1) := by decide +kernel
theorem dJ9_max_7cf53_10 : decode cJ9_max_7cf53 10 = .ok (.ireturn, 1) := by decide +kernel
theorem dJ9_min_7cf53_0 : decode cJ9_min_7cf53 0 = .ok (.iload_n 0, 1) := by decide +kernel
theorem dJ9_min_7cf53_1 : decode cJ9_min_7cf53 1 = .ok (.iload_n 1, 1) := by decide +kernel
theorem dJ9_min_7cf53_2 : decode cJ9_min_7cf53 2 = .ok (.if_icmp .gt 7, 3) := by decide +kernel
theorem dJ9_min_7cf53_5 : decode cJ9_min_7cf53 5 = .ok (.iload_n 0, 1) := by decide +kernel
theorem dJ9_min_7cf53_6 : decode cJ9_min_7cf53 6 = .ok (.goto 4, 3) := by decide +kernel
theorem dJ9_min_7cf53_9 : decode cJ9_min_7cf53 9 = .ok (.iload_n 1, 1) := by decide +kernel
theorem dJ9_min_7cf53_10 : decode cJ9_min_7cf53 10 = .ok (.ireturn, 1) := by decide +kernel
