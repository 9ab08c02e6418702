theorem th_b_9 : (Int8.ofInt 9).toInt32 = 9 := by decide
theorem th_l_9 : (9 : Int32).toInt = 9 := by decide
theorem th_b_12 : (Int8.ofInt 12).toInt32 = 12 := by decide
theorem th_l_12 : (12 : Int32).toInt = 12 := by decide
theorem th_b_39 : (Int8.ofInt 39).toInt32 = 39 := by decide
theorem th_l_39 : (39 : Int32).toInt = 39 := by decide
theorem dc_O_is_0 : decode cb_O_is 0 = .ok (.iload_n 0, 1) := by decide +kernel
theorem dc_O_is_1 : decode cb_O_is 1 = .ok (.iload_n 1, 1) := by decide +kernel
theorem dc_O_is_2 : decode cb_O_is 2 = .ok (.if_icmp .lt 12, 3) := by decide +kernel
theorem dc_O_is_5 : decode cb_O_is 5 = .ok (.iload_n 0, 1) := by decide +kernel
theorem dc_O_is_6 : decode cb_O_is 6 = .ok (.iload_n 2, 1) := by decide +kernel
theorem dc_O_is_7 : decode cb_O_is 7 = .ok (.if_icmp .gt 7, 3) := by decide +kernel
theorem dc_O_is_10 : decode cb_O_is 10 = .ok (.iconst 1, 1) := by decide +kernel
theorem dc_O_is_11 : decode cb_O_is 11 = .ok (.goto 4, 3) := by decide +kernel
theorem dc_O_is_14 : decode cb_O_is 14 = .ok (.iconst 0, 1) := by decide +kernel
theorem dc_O_is_15 : decode cb_O_is 15 = .ok (.ireturn, 1) := by decide +kernel
theorem dc_O_fits_0 : decode cb_O_fits 0 = .ok (.iload_n 0, 1) := by decide +kernel
theorem dc_O_fits_1 : decode cb_O_fits 1 = .ok (.tableswitch 245 0 19 #[95, 95, 102, 95, 95, 126, 126, 133, 157, 126, 126, 181, 188, 181, 212, 95, 212, 220, 95, 95], 95) := by decide +kernel
theorem dc_O_fits_96 : decode cb_O_fits 96 = .ok (.iload_n 1, 1) := by decide +kernel
theorem dc_O_fits_97 : decode cb_O_fits 97 = .ok (.iconst 0, 1) := by decide +kernel
theorem dc_O_fits_98 : decode cb_O_fits 98 = .ok (.iconst 3, 1) := by decide +kernel
theorem dc_O_fits_99 : decode cb_O_fits 99 = .ok (.invokestatic 117, 3) := by decide +kernel
theorem dc_O_fits_102 : decode cb_O_fits 102 = .ok (.ireturn, 1) := by decide +kernel
theorem dc_O_fits_103 : decode cb_O_fits 103 = .ok (.iload_n 1, 1) := by decide +kernel
theorem dc_O_fits_104 : decode cb_O_fits 104 = .ok (.iconst 0, 1) := by decide +kernel
theorem dc_O_fits_105 : decode cb_O_fits 105 = .ok (.iconst 3, 1) := by decide +kernel
theorem dc_O_fits_106 : decode cb_O_fits 106 = .ok (.invokestatic 117, 3) := by decide +kernel
theorem dc_O_fits_109 : decode cb_O_fits 109 = .ok (.ifCond .eq 16, 3) := by decide +kernel
theorem dc_O_fits_112 : decode cb_O_fits 112 = .ok (.iload_n 2, 1) := by decide +kernel
theorem dc_O_fits_113 : decode cb_O_fits 113 = .ok (.iconst 0, 1) := by decide +kernel
theorem dc_O_fits_114 : decode cb_O_fits 114 = .ok (.iconst 3, 1) := by decide +kernel
theorem dc_O_fits_115 : decode cb_O_fits 115 = .ok (.invokestatic 117, 3) := by decide +kernel
theorem dc_O_fits_118 : decode cb_O_fits 118 = .ok (.ifCond .eq 7, 3) := by decide +kernel
theorem dc_O_fits_121 : decode cb_O_fits 121 = .ok (.iconst 1, 1) := by decide +kernel
theorem dc_O_fits_122 : decode cb_O_fits 122 = .ok (.goto 4, 3) := by decide +kernel
theorem dc_O_fits_125 : decode cb_O_fits 125 = .ok (.iconst 0, 1) := by decide +kernel
theorem dc_O_fits_126 : decode cb_O_fits 126 = .ok (.ireturn, 1) := by decide +kernel
theorem dc_O_fits_127 : decode cb_O_fits 127 = .ok (.iload_n 1, 1) := by decide +kernel
theorem dc_O_fits_128 : decode cb_O_fits 128 = .ok (.iconst 0, 1) := by decide +kernel
theorem dc_O_fits_129 : decode cb_O_fits 129 = .ok (.iconst 2, 1) := by decide +kernel
theorem dc_O_fits_130 : decode cb_O_fits 130 = .ok (.invokestatic 117, 3) := by decide +kernel
theorem dc_O_fits_133 : decode cb_O_fits 133 = .ok (.ireturn, 1) := by decide +kernel
theorem dc_O_fits_134 : decode cb_O_fits 134 = .ok (.iload_n 1, 1) := by decide +kernel
theorem dc_O_fits_135 : decode cb_O_fits 135 = .ok (.iconst 0, 1) := by decide +kernel
theorem dc_O_fits_136 : decode cb_O_fits 136 = .ok (.iconst 2, 1) := by decide +kernel
theorem dc_O_fits_137 : decode cb_O_fits 137 = .ok (.invokestatic 117, 3) := by decide +kernel
theorem dc_O_fits_140 : decode cb_O_fits 140 = .ok (.ifCond .eq 16, 3) := by decide +kernel
theorem dc_O_fits_143 : decode cb_O_fits 143 = .ok (.iload_n 2, 1) := by decide +kernel
theorem dc_O_fits_144 : decode cb_O_fits 144 = .ok (.iconst 0, 1) := by decide +kernel
theorem dc_O_fits_145 : decode cb_O_fits 145 = .ok (.iconst 3, 1) := by decide +kernel
theorem dc_O_fits_146 : decode cb_O_fits 146 = .ok (.invokestatic 117, 3) := by decide +kernel
theorem dc_O_fits_149 : decode cb_O_fits 149 = .ok (.ifCond .eq 7, 3) := by decide +kernel
theorem dc_O_fits_152 : decode cb_O_fits 152 = .ok (.iconst 1, 1) := by decide +kernel
theorem dc_O_fits_153 : decode cb_O_fits 153 = .ok (.goto 4, 3) := by decide +kernel
theorem dc_O_fits_156 : decode cb_O_fits 156 = .ok (.iconst 0, 1) := by decide +kernel
theorem dc_O_fits_157 : decode cb_O_fits 157 = .ok (.ireturn, 1) := by decide +kernel
theorem dc_O_fits_158 : decode cb_O_fits 158 = .ok (.iload_n 1, 1) := by decide +kernel
theorem dc_O_fits_159 : decode cb_O_fits 159 = .ok (.iconst 0, 1) := by decide +kernel
theorem dc_O_fits_160 : decode cb_O_fits 160 = .ok (.iconst 2, 1) := by decide +kernel
theorem dc_O_fits_161 : decode cb_O_fits 161 = .ok (.invokestatic 117, 3) := by decide +kernel
theorem dc_O_fits_164 : decode cb_O_fits 164 = .ok (.ifCond .eq 16, 3) := by decide +kernel
theorem dc_O_fits_167 : decode cb_O_fits 167 = .ok (.iload_n 2, 1) := by decide +kernel
theorem dc_O_fits_168 : decode cb_O_fits 168 = .ok (.iconst 0, 1) := by decide +kernel
theorem dc_O_fits_169 : decode cb_O_fits 169 = .ok (.iconst 2, 1) := by decide +kernel
theorem dc_O_fits_170 : decode cb_O_fits 170 = .ok (.invokestatic 117, 3) := by decide +kernel
theorem dc_O_fits_173 : decode cb_O_fits 173 = .ok (.ifCond .eq 7, 3) := by decide +kernel
theorem dc_O_fits_176 : decode cb_O_fits 176 = .ok (.iconst 1, 1) := by decide +kernel
theorem dc_O_fits_177 : decode cb_O_fits 177 = .ok (.goto 4, 3) := by decide +kernel
theorem dc_O_fits_180 : decode cb_O_fits 180 = .ok (.iconst 0, 1) := by decide +kernel
theorem dc_O_fits_181 : decode cb_O_fits 181 = .ok (.ireturn, 1) := by decide +kernel
theorem dc_O_fits_182 : decode cb_O_fits 182 = .ok (.iload_n 1, 1) := by decide +kernel
theorem dc_O_fits_183 : decode cb_O_fits 183 = .ok (.iconst 0, 1) := by decide +kernel
theorem dc_O_fits_184 : decode cb_O_fits 184 = .ok (.iconst 4, 1) := by decide +kernel
theorem dc_O_fits_185 : decode cb_O_fits 185 = .ok (.invokestatic 117, 3) := by decide +kernel
theorem dc_O_fits_188 : decode cb_O_fits 188 = .ok (.ireturn, 1) := by decide +kernel
theorem dc_O_fits_189 : decode cb_O_fits 189 = .ok (.iload_n 1, 1) := by decide +kernel
theorem dc_O_fits_190 : decode cb_O_fits 190 = .ok (.iconst 0, 1) := by decide +kernel
theorem dc_O_fits_191 : decode cb_O_fits 191 = .ok (.iconst 4, 1) := by decide +kernel
theorem dc_O_fits_192 : decode cb_O_fits 192 = .ok (.invokestatic 117, 3) := by decide +kernel
theorem dc_O_fits_195 : decode cb_O_fits 195 = .ok (.ifCond .eq 16, 3) := by decide +kernel
theorem dc_O_fits_198 : decode cb_O_fits 198 = .ok (.iload_n 2, 1) := by decide +kernel
theorem dc_O_fits_199 : decode cb_O_fits 199 = .ok (.iconst 0, 1) := by decide +kernel
theorem dc_O_fits_200 : decode cb_O_fits 200 = .ok (.iconst 3, 1) := by decide +kernel
theorem dc_O_fits_201 : decode cb_O_fits 201 = .ok (.invokestatic 117, 3) := by decide +kernel
theorem dc_O_fits_204 : decode cb_O_fits 204 = .ok (.ifCond .eq 7, 3) := by decide +kernel
theorem dc_O_fits_207 : decode cb_O_fits 207 = .ok (.iconst 1, 1) := by decide +kernel
theorem dc_O_fits_208 : decode cb_O_fits 208 = .ok (.goto 4, 3) := by decide +kernel
theorem dc_O_fits_211 : decode cb_O_fits 211 = .ok (.iconst 0, 1) := by decide +kernel
theorem dc_O_fits_212 : decode cb_O_fits 212 = .ok (.ireturn, 1) := by decide +kernel
theorem dc_O_fits_213 : decode cb_O_fits 213 = .ok (.iload_n 1, 1) := by decide +kernel
theorem dc_O_fits_214 : decode cb_O_fits 214 = .ok (.iconst 0, 1) := by decide +kernel
theorem dc_O_fits_215 : decode cb_O_fits 215 = .ok (.bipush 24, 2) := by decide +kernel
theorem dc_O_fits_217 : decode cb_O_fits 217 = .ok (.invokestatic 117, 3) := by decide +kernel
theorem dc_O_fits_220 : decode cb_O_fits 220 = .ok (.ireturn, 1) := by decide +kernel
theorem dc_O_fits_221 : decode cb_O_fits 221 = .ok (.iload_n 1, 1) := by decide +kernel
theorem dc_O_fits_222 : decode cb_O_fits 222 = .ok (.iconst 0, 1) := by decide +kernel
theorem dc_O_fits_223 : decode cb_O_fits 223 = .ok (.iconst 3, 1) := by decide +kernel
theorem dc_O_fits_224 : decode cb_O_fits 224 = .ok (.invokestatic 117, 3) := by decide +kernel
theorem dc_O_fits_227 : decode cb_O_fits 227 = .ok (.ifCond .eq 17, 3) := by decide +kernel
theorem dc_O_fits_230 : decode cb_O_fits 230 = .ok (.iload_n 2, 1) := by decide +kernel
theorem dc_O_fits_231 : decode cb_O_fits 231 = .ok (.iconst 0, 1) := by decide +kernel
theorem dc_O_fits_232 : decode cb_O_fits 232 = .ok (.bipush 24, 2) := by decide +kernel
theorem dc_O_fits_234 : decode cb_O_fits 234 = .ok (.invokestatic 117, 3) := by decide +kernel
theorem dc_O_fits_237 : decode cb_O_fits 237 = .ok (.ifCond .eq 7, 3) := by decide +kernel
theorem dc_O_fits_240 : decode cb_O_fits 240 = .ok (.iconst 1, 1) := by decide +kernel
theorem dc_O_fits_241 : decode cb_O_fits 241 = .ok (.goto 4, 3) := by decide +kernel
theorem dc_O_fits_244 : decode cb_O_fits 244 = .ok (.iconst 0, 1) := by decide +kernel
theorem dc_O_fits_245 : decode cb_O_fits 245 = .ok (.ireturn, 1) := by decide +kernel
theorem dc_O_fits_246 : decode cb_O_fits 246 = .ok (.iload_n 0, 1) := by decide +kernel
theorem dc_O_fits_247 : decode cb_O_fits 247 = .ok (.bipush 20, 2) := by decide +kernel
theorem dc_O_fits_249 : decode cb_O_fits 249 = .ok (.if_icmp .ne 7, 3) := by decide +kernel
theorem dc_O_fits_252 : decode cb_O_fits 252 = .ok (.iconst 1, 1) := by decide +kernel
theorem dc_O_fits_253 : decode cb_O_fits 253 = .ok (.goto 4, 3) := by decide +kernel
theorem dc_O_fits_256 : decode cb_O_fits 256 = .ok (.iconst 0, 1) := by decide +kernel
theorem dc_O_fits_257 : decode cb_O_fits 257 = .ok (.ireturn, 1) := by decide +kernel
theorem dc_O_refuse_0 : decode cb_O_refuse 0 = .ok (.aload_n 0, 1) := by decide +kernel
theorem dc_O_refuse_1 : decode cb_O_refuse 1 = .ok (.iload_n 1, 1) := by decide +kernel
theorem dc_O_refuse_2 : decode cb_O_refuse 2 = .ok (.putfield 114, 3) := by decide +kernel
theorem dc_O_refuse_5 : decode cb_O_refuse 5 = .ok (.iconst 0, 1) := by decide +kernel
theorem dc_O_refuse_6 : decode cb_O_refuse 6 = .ok (.ireturn, 1) := by decide +kernel
theorem dc_O_thrown_0 : decode cb_O_thrown 0 = .ok (.aload_n 0, 1) := by decide +kernel
theorem dc_O_thrown_1 : decode cb_O_thrown 1 = .ok (.getfield 114, 3) := by decide +kernel
theorem dc_O_thrown_4 : decode cb_O_thrown 4 = .ok (.ireturn, 1) := by decide +kernel
theorem dc_O_alive_0 : decode cb_O_alive 0 = .ok (.aload_n 0, 1) := by decide +kernel
theorem dc_O_alive_1 : decode cb_O_alive 1 = .ok (.getfield 43, 3) := by decide +kernel
theorem dc_O_alive_4 : decode cb_O_alive 4 = .ok (.iload_n 1, 1) := by decide +kernel
theorem dc_O_alive_5 : decode cb_O_alive 5 = .ok (.iaload, 1) := by decide +kernel
theorem dc_O_alive_6 : decode cb_O_alive 6 = .ok (.ifCond .eq 17, 3) := by decide +kernel
theorem dc_O_alive_9 : decode cb_O_alive 9 = .ok (.aload_n 0, 1) := by decide +kernel
theorem dc_O_alive_10 : decode cb_O_alive 10 = .ok (.getfield 43, 3) := by decide +kernel
theorem dc_O_alive_13 : decode cb_O_alive 13 = .ok (.iload_n 1, 1) := by decide +kernel
theorem dc_O_alive_14 : decode cb_O_alive 14 = .ok (.iaload, 1) := by decide +kernel
theorem dc_O_alive_15 : decode cb_O_alive 15 = .ok (.iconst 5, 1) := by decide +kernel
theorem dc_O_alive_16 : decode cb_O_alive 16 = .ok (.if_icmp .eq 7, 3) := by decide +kernel
theorem dc_O_alive_19 : decode cb_O_alive 19 = .ok (.iconst 1, 1) := by decide +kernel
theorem dc_O_alive_20 : decode cb_O_alive 20 = .ok (.goto 4, 3) := by decide +kernel
theorem dc_O_alive_23 : decode cb_O_alive 23 = .ok (.iconst 0, 1) := by decide +kernel
theorem dc_O_alive_24 : decode cb_O_alive 24 = .ok (.ireturn, 1) := by decide +kernel
theorem dc_O_bound_0 : decode cb_O_bound 0 = .ok (.aload_n 0, 1) := by decide +kernel
theorem dc_O_bound_1 : decode cb_O_bound 1 = .ok (.getfield 31, 3) := by decide +kernel
theorem dc_O_bound_4 : decode cb_O_bound 4 = .ok (.iload_n 1, 1) := by decide +kernel
theorem dc_O_bound_5 : decode cb_O_bound 5 = .ok (.iaload, 1) := by decide +kernel
theorem dc_O_bound_6 : decode cb_O_bound 6 = .ok (.iconst 1, 1) := by decide +kernel
theorem dc_O_bound_7 : decode cb_O_bound 7 = .ok (.isub, 1) := by decide +kernel
theorem dc_O_bound_8 : decode cb_O_bound 8 = .ok (.istore_n 3, 1) := by decide +kernel
theorem dc_O_bound_9 : decode cb_O_bound 9 = .ok (.iload_n 3, 1) := by decide +kernel
theorem dc_O_bound_10 : decode cb_O_bound 10 = .ok (.ifCond .lt 31, 3) := by decide +kernel
theorem dc_O_bound_13 : decode cb_O_bound 13 = .ok (.aload_n 0, 1) := by decide +kernel
theorem dc_O_bound_14 : decode cb_O_bound 14 = .ok (.getfield 25, 3) := by decide +kernel
theorem dc_O_bound_17 : decode cb_O_bound 17 = .ok (.bipush 12, 2) := by decide +kernel
theorem dc_O_bound_19 : decode cb_O_bound 19 = .ok (.iload_n 1, 1) := by decide +kernel
theorem dc_O_bound_20 : decode cb_O_bound 20 = .ok (.imul, 1) := by decide +kernel
theorem dc_O_bound_21 : decode cb_O_bound 21 = .ok (.iload_n 3, 1) := by decide +kernel
theorem dc_O_bound_22 : decode cb_O_bound 22 = .ok (.iadd, 1) := by decide +kernel
theorem dc_O_bound_23 : decode cb_O_bound 23 = .ok (.iaload, 1) := by decide +kernel
theorem dc_O_bound_24 : decode cb_O_bound 24 = .ok (.iload_n 2, 1) := by decide +kernel
theorem dc_O_bound_25 : decode cb_O_bound 25 = .ok (.if_icmp .ne 10, 3) := by decide +kernel
theorem dc_O_bound_28 : decode cb_O_bound 28 = .ok (.bipush 12, 2) := by decide +kernel
theorem dc_O_bound_30 : decode cb_O_bound 30 = .ok (.iload_n 1, 1) := by decide +kernel
theorem dc_O_bound_31 : decode cb_O_bound 31 = .ok (.imul, 1) := by decide +kernel
theorem dc_O_bound_32 : decode cb_O_bound 32 = .ok (.iload_n 3, 1) := by decide +kernel
theorem dc_O_bound_33 : decode cb_O_bound 33 = .ok (.iadd, 1) := by decide +kernel
theorem dc_O_bound_34 : decode cb_O_bound 34 = .ok (.ireturn, 1) := by decide +kernel
theorem dc_O_bound_35 : decode cb_O_bound 35 = .ok (.iinc 3 (-1), 3) := by decide +kernel
theorem dc_O_bound_38 : decode cb_O_bound 38 = .ok (.goto (-29), 3) := by decide +kernel
theorem dc_O_bound_41 : decode cb_O_bound 41 = .ok (.iconst (-1), 1) := by decide +kernel
theorem dc_O_bound_42 : decode cb_O_bound 42 = .ok (.ireturn, 1) := by decide +kernel
theorem dc_O_get_0 : decode cb_O_get 0 = .ok (.aload_n 0, 1) := by decide +kernel
theorem dc_O_get_1 : decode cb_O_get 1 = .ok (.iload_n 1, 1) := by decide +kernel
theorem dc_O_get_2 : decode cb_O_get 2 = .ok (.iload_n 2, 1) := by decide +kernel
theorem dc_O_get_3 : decode cb_O_get 3 = .ok (.invokevirtual 132, 3) := by decide +kernel
theorem dc_O_get_6 : decode cb_O_get 6 = .ok (.istore_n 3, 1) := by decide +kernel
theorem dc_O_get_7 : decode cb_O_get 7 = .ok (.iload_n 3, 1) := by decide +kernel
theorem dc_O_get_8 : decode cb_O_get 8 = .ok (.ifCond .ge 12, 3) := by decide +kernel
theorem dc_O_get_11 : decode cb_O_get 11 = .ok (.aload_n 0, 1) := by decide +kernel
theorem dc_O_get_12 : decode cb_O_get 12 = .ok (.getfield 22, 3) := by decide +kernel
theorem dc_O_get_15 : decode cb_O_get 15 = .ok (.iload_n 2, 1) := by decide +kernel
theorem dc_O_get_16 : decode cb_O_get 16 = .ok (.iaload, 1) := by decide +kernel
theorem dc_O_get_17 : decode cb_O_get 17 = .ok (.goto 9, 3) := by decide +kernel
theorem dc_O_get_20 : decode cb_O_get 20 = .ok (.aload_n 0, 1) := by decide +kernel
theorem dc_O_get_21 : decode cb_O_get 21 = .ok (.getfield 28, 3) := by decide +kernel
theorem dc_O_get_24 : decode cb_O_get 24 = .ok (.iload_n 3, 1) := by decide +kernel
theorem dc_O_get_25 : decode cb_O_get 25 = .ok (.iaload, 1) := by decide +kernel
theorem dc_O_get_26 : decode cb_O_get 26 = .ok (.ireturn, 1) := by decide +kernel
theorem dc_O_put_0 : decode cb_O_put 0 = .ok (.aload_n 0, 1) := by decide +kernel
theorem dc_O_put_1 : decode cb_O_put 1 = .ok (.iload_n 1, 1) := by decide +kernel
theorem dc_O_put_2 : decode cb_O_put 2 = .ok (.iload_n 2, 1) := by decide +kernel
theorem dc_O_put_3 : decode cb_O_put 3 = .ok (.invokevirtual 132, 3) := by decide +kernel
theorem dc_O_put_6 : decode cb_O_put 6 = .ok (.istore 4, 2) := by decide +kernel
theorem dc_O_put_8 : decode cb_O_put 8 = .ok (.iload 4, 2) := by decide +kernel
theorem dc_O_put_10 : decode cb_O_put 10 = .ok (.ifCond .ge 13, 3) := by decide +kernel
theorem dc_O_put_13 : decode cb_O_put 13 = .ok (.aload_n 0, 1) := by decide +kernel
theorem dc_O_put_14 : decode cb_O_put 14 = .ok (.getfield 22, 3) := by decide +kernel
theorem dc_O_put_17 : decode cb_O_put 17 = .ok (.iload_n 2, 1) := by decide +kernel
theorem dc_O_put_18 : decode cb_O_put 18 = .ok (.iload_n 3, 1) := by decide +kernel
theorem dc_O_put_19 : decode cb_O_put 19 = .ok (.iastore, 1) := by decide +kernel
theorem dc_O_put_20 : decode cb_O_put 20 = .ok (.goto 11, 3) := by decide +kernel
theorem dc_O_put_23 : decode cb_O_put 23 = .ok (.aload_n 0, 1) := by decide +kernel
theorem dc_O_put_24 : decode cb_O_put 24 = .ok (.getfield 28, 3) := by decide +kernel
theorem dc_O_put_27 : decode cb_O_put 27 = .ok (.iload 4, 2) := by decide +kernel
theorem dc_O_put_29 : decode cb_O_put 29 = .ok (.iload_n 3, 1) := by decide +kernel
theorem dc_O_put_30 : decode cb_O_put 30 = .ok (.iastore, 1) := by decide +kernel
theorem dc_O_put_31 : decode cb_O_put 31 = .ok (.return_, 1) := by decide +kernel
theorem dc_O_begin_0 : decode cb_O_begin 0 = .ok (.aload_n 0, 1) := by decide +kernel
theorem dc_O_begin_1 : decode cb_O_begin 1 = .ok (.iload_n 1, 1) := by decide +kernel
theorem dc_O_begin_2 : decode cb_O_begin 2 = .ok (.invokevirtual 128, 3) := by decide +kernel
theorem dc_O_begin_5 : decode cb_O_begin 5 = .ok (.ifCond .eq 5, 3) := by decide +kernel
theorem dc_O_begin_8 : decode cb_O_begin 8 = .ok (.iconst 0, 1) := by decide +kernel
theorem dc_O_begin_9 : decode cb_O_begin 9 = .ok (.ireturn, 1) := by decide +kernel
theorem dc_O_begin_10 : decode cb_O_begin 10 = .ok (.aload_n 0, 1) := by decide +kernel
theorem dc_O_begin_11 : decode cb_O_begin 11 = .ok (.getfield 43, 3) := by decide +kernel
theorem dc_O_begin_14 : decode cb_O_begin 14 = .ok (.iload_n 1, 1) := by decide +kernel
theorem dc_O_begin_15 : decode cb_O_begin 15 = .ok (.iconst 1, 1) := by decide +kernel
theorem dc_O_begin_16 : decode cb_O_begin 16 = .ok (.iastore, 1) := by decide +kernel
theorem dc_O_begin_17 : decode cb_O_begin 17 = .ok (.aload_n 0, 1) := by decide +kernel
theorem dc_O_begin_18 : decode cb_O_begin 18 = .ok (.getfield 46, 3) := by decide +kernel
theorem dc_O_begin_21 : decode cb_O_begin 21 = .ok (.iload_n 1, 1) := by decide +kernel
theorem dc_O_begin_22 : decode cb_O_begin 22 = .ok (.iconst 0, 1) := by decide +kernel
theorem dc_O_begin_23 : decode cb_O_begin 23 = .ok (.iastore, 1) := by decide +kernel
theorem dc_O_begin_24 : decode cb_O_begin 24 = .ok (.aload_n 0, 1) := by decide +kernel
theorem dc_O_begin_25 : decode cb_O_begin 25 = .ok (.getfield 31, 3) := by decide +kernel
theorem dc_O_begin_28 : decode cb_O_begin 28 = .ok (.iload_n 1, 1) := by decide +kernel
theorem dc_O_begin_29 : decode cb_O_begin 29 = .ok (.iconst 0, 1) := by decide +kernel
theorem dc_O_begin_30 : decode cb_O_begin 30 = .ok (.iastore, 1) := by decide +kernel
theorem dc_O_begin_31 : decode cb_O_begin 31 = .ok (.aload_n 0, 1) := by decide +kernel
theorem dc_O_begin_32 : decode cb_O_begin 32 = .ok (.getfield 40, 3) := by decide +kernel
theorem dc_O_begin_35 : decode cb_O_begin 35 = .ok (.iload_n 1, 1) := by decide +kernel
theorem dc_O_begin_36 : decode cb_O_begin 36 = .ok (.iconst 0, 1) := by decide +kernel
theorem dc_O_begin_37 : decode cb_O_begin 37 = .ok (.iastore, 1) := by decide +kernel
theorem dc_O_begin_38 : decode cb_O_begin 38 = .ok (.aload_n 0, 1) := by decide +kernel
theorem dc_O_begin_39 : decode cb_O_begin 39 = .ok (.getfield 52, 3) := by decide +kernel
theorem dc_O_begin_42 : decode cb_O_begin 42 = .ok (.iload_n 1, 1) := by decide +kernel
theorem dc_O_begin_43 : decode cb_O_begin 43 = .ok (.bipush 24, 2) := by decide +kernel
theorem dc_O_begin_45 : decode cb_O_begin 45 = .ok (.iastore, 1) := by decide +kernel
theorem dc_O_begin_46 : decode cb_O_begin 46 = .ok (.aload_n 0, 1) := by decide +kernel
theorem dc_O_begin_47 : decode cb_O_begin 47 = .ok (.getfield 73, 3) := by decide +kernel
theorem dc_O_begin_50 : decode cb_O_begin 50 = .ok (.iload_n 1, 1) := by decide +kernel
theorem dc_O_begin_51 : decode cb_O_begin 51 = .ok (.iconst 0, 1) := by decide +kernel
theorem dc_O_begin_52 : decode cb_O_begin 52 = .ok (.bastore, 1) := by decide +kernel
theorem dc_O_begin_53 : decode cb_O_begin 53 = .ok (.aload_n 0, 1) := by decide +kernel
theorem dc_O_begin_54 : decode cb_O_begin 54 = .ok (.getfield 77, 3) := by decide +kernel
theorem dc_O_begin_57 : decode cb_O_begin 57 = .ok (.iload_n 1, 1) := by decide +kernel
theorem dc_O_begin_58 : decode cb_O_begin 58 = .ok (.iconst 0, 1) := by decide +kernel
theorem dc_O_begin_59 : decode cb_O_begin 59 = .ok (.bastore, 1) := by decide +kernel
theorem dc_O_begin_60 : decode cb_O_begin 60 = .ok (.aload_n 0, 1) := by decide +kernel
theorem dc_O_begin_61 : decode cb_O_begin 61 = .ok (.getfield 55, 3) := by decide +kernel
theorem dc_O_begin_64 : decode cb_O_begin 64 = .ok (.iload_n 1, 1) := by decide +kernel
theorem dc_O_begin_65 : decode cb_O_begin 65 = .ok (.iconst 0, 1) := by decide +kernel
theorem dc_O_begin_66 : decode cb_O_begin 66 = .ok (.iastore, 1) := by decide +kernel
theorem dc_O_begin_67 : decode cb_O_begin 67 = .ok (.aload_n 0, 1) := by decide +kernel
theorem dc_O_begin_68 : decode cb_O_begin 68 = .ok (.getfield 58, 3) := by decide +kernel
theorem dc_O_begin_71 : decode cb_O_begin 71 = .ok (.iload_n 1, 1) := by decide +kernel
theorem dc_O_begin_72 : decode cb_O_begin 72 = .ok (.dup2, 1) := by decide +kernel
theorem dc_O_begin_73 : decode cb_O_begin 73 = .ok (.iaload, 1) := by decide +kernel
theorem dc_O_begin_74 : decode cb_O_begin 74 = .ok (.iconst 1, 1) := by decide +kernel
theorem dc_O_begin_75 : decode cb_O_begin 75 = .ok (.iadd, 1) := by decide +kernel
theorem dc_O_begin_76 : decode cb_O_begin 76 = .ok (.iastore, 1) := by decide +kernel
theorem dc_O_begin_77 : decode cb_O_begin 77 = .ok (.iconst 1, 1) := by decide +kernel
theorem dc_O_begin_78 : decode cb_O_begin 78 = .ok (.ireturn, 1) := by decide +kernel
theorem dc_O_clear_0 : decode cb_O_clear 0 = .ok (.aload_n 0, 1) := by decide +kernel
theorem dc_O_clear_1 : decode cb_O_clear 1 = .ok (.iconst 0, 1) := by decide +kernel
theorem dc_O_clear_2 : decode cb_O_clear 2 = .ok (.putfield 114, 3) := by decide +kernel
theorem dc_O_clear_5 : decode cb_O_clear 5 = .ok (.iload_n 1, 1) := by decide +kernel
theorem dc_O_clear_6 : decode cb_O_clear 6 = .ok (.iconst 0, 1) := by decide +kernel
theorem dc_O_clear_7 : decode cb_O_clear 7 = .ok (.iconst 4, 1) := by decide +kernel
theorem dc_O_clear_8 : decode cb_O_clear 8 = .ok (.invokestatic 117, 3) := by decide +kernel
theorem dc_O_clear_11 : decode cb_O_clear 11 = .ok (.ifCond .ne 9, 3) := by decide +kernel
theorem dc_O_clear_14 : decode cb_O_clear 14 = .ok (.aload_n 0, 1) := by decide +kernel
theorem dc_O_clear_15 : decode cb_O_clear 15 = .ok (.iconst 1, 1) := by decide +kernel
theorem dc_O_clear_16 : decode cb_O_clear 16 = .ok (.invokevirtual 124, 3) := by decide +kernel
theorem dc_O_clear_19 : decode cb_O_clear 19 = .ok (.ireturn, 1) := by decide +kernel
theorem dc_O_clear_20 : decode cb_O_clear 20 = .ok (.aload_n 0, 1) := by decide +kernel
theorem dc_O_clear_21 : decode cb_O_clear 21 = .ok (.iload_n 1, 1) := by decide +kernel
theorem dc_O_clear_22 : decode cb_O_clear 22 = .ok (.invokevirtual 128, 3) := by decide +kernel
theorem dc_O_clear_25 : decode cb_O_clear 25 = .ok (.ifCond .eq 9, 3) := by decide +kernel
theorem dc_O_clear_28 : decode cb_O_clear 28 = .ok (.aload_n 0, 1) := by decide +kernel
theorem dc_O_clear_29 : decode cb_O_clear 29 = .ok (.iconst 2, 1) := by decide +kernel
theorem dc_O_clear_30 : decode cb_O_clear 30 = .ok (.invokevirtual 124, 3) := by decide +kernel
theorem dc_O_clear_33 : decode cb_O_clear 33 = .ok (.ireturn, 1) := by decide +kernel
theorem dc_O_clear_34 : decode cb_O_clear 34 = .ok (.aload_n 0, 1) := by decide +kernel
theorem dc_O_clear_35 : decode cb_O_clear 35 = .ok (.getfield 19, 3) := by decide +kernel
theorem dc_O_clear_38 : decode cb_O_clear 38 = .ok (.iload_n 1, 1) := by decide +kernel
theorem dc_O_clear_39 : decode cb_O_clear 39 = .ok (.iaload, 1) := by decide +kernel
theorem dc_O_clear_40 : decode cb_O_clear 40 = .ok (.istore_n 2, 1) := by decide +kernel
theorem dc_O_clear_41 : decode cb_O_clear 41 = .ok (.aload_n 0, 1) := by decide +kernel
theorem dc_O_clear_42 : decode cb_O_clear 42 = .ok (.getfield 19, 3) := by decide +kernel
theorem dc_O_clear_45 : decode cb_O_clear 45 = .ok (.iload_n 1, 1) := by decide +kernel
theorem dc_O_clear_46 : decode cb_O_clear 46 = .ok (.iconst 0, 1) := by decide +kernel
theorem dc_O_clear_47 : decode cb_O_clear 47 = .ok (.iastore, 1) := by decide +kernel
theorem dc_O_clear_48 : decode cb_O_clear 48 = .ok (.iload_n 2, 1) := by decide +kernel
theorem dc_O_clear_49 : decode cb_O_clear 49 = .ok (.ireturn, 1) := by decide +kernel
theorem dc_O_start_0 : decode cb_O_start 0 = .ok (.aload_n 0, 1) := by decide +kernel
theorem dc_O_start_1 : decode cb_O_start 1 = .ok (.iconst 0, 1) := by decide +kernel
theorem dc_O_start_2 : decode cb_O_start 2 = .ok (.putfield 114, 3) := by decide +kernel
theorem dc_O_start_5 : decode cb_O_start 5 = .ok (.iload_n 1, 1) := by decide +kernel
theorem dc_O_start_6 : decode cb_O_start 6 = .ok (.iconst 0, 1) := by decide +kernel
theorem dc_O_start_7 : decode cb_O_start 7 = .ok (.iconst 4, 1) := by decide +kernel
theorem dc_O_start_8 : decode cb_O_start 8 = .ok (.invokestatic 117, 3) := by decide +kernel
theorem dc_O_start_11 : decode cb_O_start 11 = .ok (.ifCond .ne 9, 3) := by decide +kernel
theorem dc_O_start_14 : decode cb_O_start 14 = .ok (.aload_n 0, 1) := by decide +kernel
theorem dc_O_start_15 : decode cb_O_start 15 = .ok (.iconst 1, 1) := by decide +kernel
theorem dc_O_start_16 : decode cb_O_start 16 = .ok (.invokevirtual 124, 3) := by decide +kernel
theorem dc_O_start_19 : decode cb_O_start 19 = .ok (.ireturn, 1) := by decide +kernel
theorem dc_O_start_20 : decode cb_O_start 20 = .ok (.aload_n 0, 1) := by decide +kernel
theorem dc_O_start_21 : decode cb_O_start 21 = .ok (.iload_n 1, 1) := by decide +kernel
theorem dc_O_start_22 : decode cb_O_start 22 = .ok (.invokevirtual 179, 3) := by decide +kernel
theorem dc_O_start_25 : decode cb_O_start 25 = .ok (.ifCond .eq 7, 3) := by decide +kernel
theorem dc_O_start_28 : decode cb_O_start 28 = .ok (.iconst 1, 1) := by decide +kernel
theorem dc_O_start_29 : decode cb_O_start 29 = .ok (.goto 4, 3) := by decide +kernel
theorem dc_O_start_32 : decode cb_O_start 32 = .ok (.iconst 0, 1) := by decide +kernel
theorem dc_O_start_33 : decode cb_O_start 33 = .ok (.ireturn, 1) := by decide +kernel
theorem dc_O_global_0 : decode cb_O_global 0 = .ok (.aload_n 0, 1) := by decide +kernel
theorem dc_O_global_1 : decode cb_O_global 1 = .ok (.iconst 0, 1) := by decide +kernel
theorem dc_O_global_2 : decode cb_O_global 2 = .ok (.putfield 114, 3) := by decide +kernel
theorem dc_O_global_5 : decode cb_O_global 5 = .ok (.iload_n 1, 1) := by decide +kernel
theorem dc_O_global_6 : decode cb_O_global 6 = .ok (.iconst 0, 1) := by decide +kernel
theorem dc_O_global_7 : decode cb_O_global 7 = .ok (.iconst 3, 1) := by decide +kernel
theorem dc_O_global_8 : decode cb_O_global 8 = .ok (.invokestatic 117, 3) := by decide +kernel
theorem dc_O_global_11 : decode cb_O_global 11 = .ok (.ifCond .ne 9, 3) := by decide +kernel
theorem dc_O_global_14 : decode cb_O_global 14 = .ok (.aload_n 0, 1) := by decide +kernel
theorem dc_O_global_15 : decode cb_O_global 15 = .ok (.iconst 1, 1) := by decide +kernel
theorem dc_O_global_16 : decode cb_O_global 16 = .ok (.invokevirtual 124, 3) := by decide +kernel
theorem dc_O_global_19 : decode cb_O_global 19 = .ok (.ireturn, 1) := by decide +kernel
theorem dc_O_global_20 : decode cb_O_global 20 = .ok (.aload_n 0, 1) := by decide +kernel
theorem dc_O_global_21 : decode cb_O_global 21 = .ok (.getfield 22, 3) := by decide +kernel
theorem dc_O_global_24 : decode cb_O_global 24 = .ok (.iload_n 1, 1) := by decide +kernel
theorem dc_O_global_25 : decode cb_O_global 25 = .ok (.iaload, 1) := by decide +kernel
theorem dc_O_global_26 : decode cb_O_global 26 = .ok (.istore_n 3, 1) := by decide +kernel
theorem dc_O_global_27 : decode cb_O_global 27 = .ok (.aload_n 0, 1) := by decide +kernel
theorem dc_O_global_28 : decode cb_O_global 28 = .ok (.getfield 22, 3) := by decide +kernel
theorem dc_O_global_31 : decode cb_O_global 31 = .ok (.iload_n 1, 1) := by decide +kernel
theorem dc_O_global_32 : decode cb_O_global 32 = .ok (.iload_n 2, 1) := by decide +kernel
theorem dc_O_global_33 : decode cb_O_global 33 = .ok (.iastore, 1) := by decide +kernel
theorem dc_O_global_34 : decode cb_O_global 34 = .ok (.iload_n 3, 1) := by decide +kernel
theorem dc_O_global_35 : decode cb_O_global 35 = .ok (.ireturn, 1) := by decide +kernel
theorem dc_O_special_0 : decode cb_O_special 0 = .ok (.aload_n 0, 1) := by decide +kernel
theorem dc_O_special_1 : decode cb_O_special 1 = .ok (.iconst 0, 1) := by decide +kernel
theorem dc_O_special_2 : decode cb_O_special 2 = .ok (.putfield 114, 3) := by decide +kernel
theorem dc_O_special_5 : decode cb_O_special 5 = .ok (.iload_n 1, 1) := by decide +kernel
theorem dc_O_special_6 : decode cb_O_special 6 = .ok (.iconst 0, 1) := by decide +kernel
theorem dc_O_special_7 : decode cb_O_special 7 = .ok (.iconst 4, 1) := by decide +kernel
theorem dc_O_special_8 : decode cb_O_special 8 = .ok (.invokestatic 117, 3) := by decide +kernel
theorem dc_O_special_11 : decode cb_O_special 11 = .ok (.ifCond .eq 21, 3) := by decide +kernel
theorem dc_O_special_14 : decode cb_O_special 14 = .ok (.iload_n 2, 1) := by decide +kernel
theorem dc_O_special_15 : decode cb_O_special 15 = .ok (.iconst 0, 1) := by decide +kernel
theorem dc_O_special_16 : decode cb_O_special 16 = .ok (.iconst 3, 1) := by decide +kernel
theorem dc_O_special_17 : decode cb_O_special 17 = .ok (.invokestatic 117, 3) := by decide +kernel
theorem dc_O_special_20 : decode cb_O_special 20 = .ok (.ifCond .eq 12, 3) := by decide +kernel
theorem dc_O_special_23 : decode cb_O_special 23 = .ok (.aload_n 0, 1) := by decide +kernel
theorem dc_O_special_24 : decode cb_O_special 24 = .ok (.iload_n 1, 1) := by decide +kernel
theorem dc_O_special_25 : decode cb_O_special 25 = .ok (.iload_n 2, 1) := by decide +kernel
theorem dc_O_special_26 : decode cb_O_special 26 = .ok (.invokevirtual 136, 3) := by decide +kernel
theorem dc_O_special_29 : decode cb_O_special 29 = .ok (.goto 8, 3) := by decide +kernel
theorem dc_O_special_32 : decode cb_O_special 32 = .ok (.aload_n 0, 1) := by decide +kernel
theorem dc_O_special_33 : decode cb_O_special 33 = .ok (.iconst 1, 1) := by decide +kernel
theorem dc_O_special_34 : decode cb_O_special 34 = .ok (.invokevirtual 124, 3) := by decide +kernel
theorem dc_O_special_37 : decode cb_O_special 37 = .ok (.ireturn, 1) := by decide +kernel
theorem dc_O_look_0 : decode cb_O_look 0 = .ok (.aload_n 0, 1) := by decide +kernel
theorem dc_O_look_1 : decode cb_O_look 1 = .ok (.iconst 0, 1) := by decide +kernel
theorem dc_O_look_2 : decode cb_O_look 2 = .ok (.putfield 114, 3) := by decide +kernel
theorem dc_O_look_5 : decode cb_O_look 5 = .ok (.iload_n 1, 1) := by decide +kernel
theorem dc_O_look_6 : decode cb_O_look 6 = .ok (.iconst 0, 1) := by decide +kernel
theorem dc_O_look_7 : decode cb_O_look 7 = .ok (.iconst 4, 1) := by decide +kernel
theorem dc_O_look_8 : decode cb_O_look 8 = .ok (.invokestatic 117, 3) := by decide +kernel
theorem dc_O_look_11 : decode cb_O_look 11 = .ok (.ifCond .ne 9, 3) := by decide +kernel
theorem dc_O_look_14 : decode cb_O_look 14 = .ok (.aload_n 0, 1) := by decide +kernel
theorem dc_O_look_15 : decode cb_O_look 15 = .ok (.iconst 1, 1) := by decide +kernel
theorem dc_O_look_16 : decode cb_O_look 16 = .ok (.invokevirtual 124, 3) := by decide +kernel
theorem dc_O_look_19 : decode cb_O_look 19 = .ok (.ireturn, 1) := by decide +kernel
theorem dc_O_look_20 : decode cb_O_look 20 = .ok (.iload_n 2, 1) := by decide +kernel
theorem dc_O_look_21 : decode cb_O_look 21 = .ok (.tableswitch 133 0 9 #[55, 62, 69, 76, 83, 90, 105, 112, 119, 126], 55) := by decide +kernel
theorem dc_O_look_76 : decode cb_O_look 76 = .ok (.aload_n 0, 1) := by decide +kernel
theorem dc_O_look_77 : decode cb_O_look 77 = .ok (.getfield 43, 3) := by decide +kernel
theorem dc_O_look_80 : decode cb_O_look 80 = .ok (.iload_n 1, 1) := by decide +kernel
theorem dc_O_look_81 : decode cb_O_look 81 = .ok (.iaload, 1) := by decide +kernel
theorem dc_O_look_82 : decode cb_O_look 82 = .ok (.ireturn, 1) := by decide +kernel
theorem dc_O_look_83 : decode cb_O_look 83 = .ok (.aload_n 0, 1) := by decide +kernel
theorem dc_O_look_84 : decode cb_O_look 84 = .ok (.getfield 46, 3) := by decide +kernel
theorem dc_O_look_87 : decode cb_O_look 87 = .ok (.iload_n 1, 1) := by decide +kernel
theorem dc_O_look_88 : decode cb_O_look 88 = .ok (.iaload, 1) := by decide +kernel
theorem dc_O_look_89 : decode cb_O_look 89 = .ok (.ireturn, 1) := by decide +kernel
theorem dc_O_look_90 : decode cb_O_look 90 = .ok (.aload_n 0, 1) := by decide +kernel
theorem dc_O_look_91 : decode cb_O_look 91 = .ok (.getfield 49, 3) := by decide +kernel
theorem dc_O_look_94 : decode cb_O_look 94 = .ok (.iload_n 1, 1) := by decide +kernel
theorem dc_O_look_95 : decode cb_O_look 95 = .ok (.iaload, 1) := by decide +kernel
theorem dc_O_look_96 : decode cb_O_look 96 = .ok (.ireturn, 1) := by decide +kernel
theorem dc_O_look_97 : decode cb_O_look 97 = .ok (.aload_n 0, 1) := by decide +kernel
theorem dc_O_look_98 : decode cb_O_look 98 = .ok (.getfield 31, 3) := by decide +kernel
theorem dc_O_look_101 : decode cb_O_look 101 = .ok (.iload_n 1, 1) := by decide +kernel
theorem dc_O_look_102 : decode cb_O_look 102 = .ok (.iaload, 1) := by decide +kernel
theorem dc_O_look_103 : decode cb_O_look 103 = .ok (.ireturn, 1) := by decide +kernel
theorem dc_O_look_104 : decode cb_O_look 104 = .ok (.aload_n 0, 1) := by decide +kernel
theorem dc_O_look_105 : decode cb_O_look 105 = .ok (.getfield 40, 3) := by decide +kernel
theorem dc_O_look_108 : decode cb_O_look 108 = .ok (.iload_n 1, 1) := by decide +kernel
theorem dc_O_look_109 : decode cb_O_look 109 = .ok (.iaload, 1) := by decide +kernel
theorem dc_O_look_110 : decode cb_O_look 110 = .ok (.ireturn, 1) := by decide +kernel
theorem dc_O_look_111 : decode cb_O_look 111 = .ok (.aload_n 0, 1) := by decide +kernel
theorem dc_O_look_112 : decode cb_O_look 112 = .ok (.getfield 73, 3) := by decide +kernel
theorem dc_O_look_115 : decode cb_O_look 115 = .ok (.iload_n 1, 1) := by decide +kernel
theorem dc_O_look_116 : decode cb_O_look 116 = .ok (.baload, 1) := by decide +kernel
theorem dc_O_look_117 : decode cb_O_look 117 = .ok (.ifCond .eq 7, 3) := by decide +kernel
theorem dc_O_look_120 : decode cb_O_look 120 = .ok (.iconst 1, 1) := by decide +kernel
theorem dc_O_look_121 : decode cb_O_look 121 = .ok (.goto 4, 3) := by decide +kernel
theorem dc_O_look_124 : decode cb_O_look 124 = .ok (.iconst 0, 1) := by decide +kernel
theorem dc_O_look_125 : decode cb_O_look 125 = .ok (.ireturn, 1) := by decide +kernel
theorem dc_O_look_126 : decode cb_O_look 126 = .ok (.aload_n 0, 1) := by decide +kernel
theorem dc_O_look_127 : decode cb_O_look 127 = .ok (.getfield 52, 3) := by decide +kernel
theorem dc_O_look_130 : decode cb_O_look 130 = .ok (.iload_n 1, 1) := by decide +kernel
theorem dc_O_look_131 : decode cb_O_look 131 = .ok (.iaload, 1) := by decide +kernel
theorem dc_O_look_132 : decode cb_O_look 132 = .ok (.ireturn, 1) := by decide +kernel
theorem dc_O_look_133 : decode cb_O_look 133 = .ok (.aload_n 0, 1) := by decide +kernel
theorem dc_O_look_134 : decode cb_O_look 134 = .ok (.getfield 55, 3) := by decide +kernel
theorem dc_O_look_137 : decode cb_O_look 137 = .ok (.iload_n 1, 1) := by decide +kernel
theorem dc_O_look_138 : decode cb_O_look 138 = .ok (.iaload, 1) := by decide +kernel
theorem dc_O_look_139 : decode cb_O_look 139 = .ok (.ireturn, 1) := by decide +kernel
theorem dc_O_look_140 : decode cb_O_look 140 = .ok (.aload_n 0, 1) := by decide +kernel
theorem dc_O_look_141 : decode cb_O_look 141 = .ok (.getfield 58, 3) := by decide +kernel
theorem dc_O_look_144 : decode cb_O_look 144 = .ok (.iload_n 1, 1) := by decide +kernel
theorem dc_O_look_145 : decode cb_O_look 145 = .ok (.iaload, 1) := by decide +kernel
theorem dc_O_look_146 : decode cb_O_look 146 = .ok (.ireturn, 1) := by decide +kernel
theorem dc_O_look_147 : decode cb_O_look 147 = .ok (.aload_n 0, 1) := by decide +kernel
theorem dc_O_look_148 : decode cb_O_look 148 = .ok (.getfield 101, 3) := by decide +kernel
theorem dc_O_look_151 : decode cb_O_look 151 = .ok (.iload_n 1, 1) := by decide +kernel
theorem dc_O_look_152 : decode cb_O_look 152 = .ok (.iaload, 1) := by decide +kernel
theorem dc_O_look_153 : decode cb_O_look 153 = .ok (.ireturn, 1) := by decide +kernel
theorem dc_O_look_154 : decode cb_O_look 154 = .ok (.aload_n 0, 1) := by decide +kernel
theorem dc_O_look_155 : decode cb_O_look 155 = .ok (.iconst 1, 1) := by decide +kernel
theorem dc_O_look_156 : decode cb_O_look 156 = .ok (.invokevirtual 124, 3) := by decide +kernel
theorem dc_O_look_159 : decode cb_O_look 159 = .ok (.ireturn, 1) := by decide +kernel
theorem dc_O_lock_0 : decode cb_O_lock 0 = .ok (.aload_n 0, 1) := by decide +kernel
theorem dc_O_lock_1 : decode cb_O_lock 1 = .ok (.iconst 0, 1) := by decide +kernel
theorem dc_O_lock_2 : decode cb_O_lock 2 = .ok (.putfield 114, 3) := by decide +kernel
theorem dc_O_lock_5 : decode cb_O_lock 5 = .ok (.iload_n 1, 1) := by decide +kernel
theorem dc_O_lock_6 : decode cb_O_lock 6 = .ok (.iconst 0, 1) := by decide +kernel
theorem dc_O_lock_7 : decode cb_O_lock 7 = .ok (.iconst 2, 1) := by decide +kernel
theorem dc_O_lock_8 : decode cb_O_lock 8 = .ok (.invokestatic 117, 3) := by decide +kernel
theorem dc_O_lock_11 : decode cb_O_lock 11 = .ok (.ifCond .eq 12, 3) := by decide +kernel
theorem dc_O_lock_14 : decode cb_O_lock 14 = .ok (.iload_n 2, 1) := by decide +kernel
theorem dc_O_lock_15 : decode cb_O_lock 15 = .ok (.iconst 0, 1) := by decide +kernel
theorem dc_O_lock_16 : decode cb_O_lock 16 = .ok (.iconst 3, 1) := by decide +kernel
theorem dc_O_lock_17 : decode cb_O_lock 17 = .ok (.invokestatic 117, 3) := by decide +kernel
theorem dc_O_lock_20 : decode cb_O_lock 20 = .ok (.ifCond .ne 9, 3) := by decide +kernel
theorem dc_O_lock_23 : decode cb_O_lock 23 = .ok (.aload_n 0, 1) := by decide +kernel
theorem dc_O_lock_24 : decode cb_O_lock 24 = .ok (.iconst 1, 1) := by decide +kernel
theorem dc_O_lock_25 : decode cb_O_lock 25 = .ok (.invokevirtual 124, 3) := by decide +kernel
theorem dc_O_lock_28 : decode cb_O_lock 28 = .ok (.ireturn, 1) := by decide +kernel
theorem dc_O_lock_29 : decode cb_O_lock 29 = .ok (.iload_n 2, 1) := by decide +kernel
theorem dc_O_lock_30 : decode cb_O_lock 30 = .ok (.ifCond .ne 12, 3) := by decide +kernel
theorem dc_O_lock_33 : decode cb_O_lock 33 = .ok (.aload_n 0, 1) := by decide +kernel
theorem dc_O_lock_34 : decode cb_O_lock 34 = .ok (.getfield 80, 3) := by decide +kernel
theorem dc_O_lock_37 : decode cb_O_lock 37 = .ok (.iload_n 1, 1) := by decide +kernel
theorem dc_O_lock_38 : decode cb_O_lock 38 = .ok (.iaload, 1) := by decide +kernel
theorem dc_O_lock_39 : decode cb_O_lock 39 = .ok (.goto 37, 3) := by decide +kernel
theorem dc_O_lock_42 : decode cb_O_lock 42 = .ok (.iload_n 2, 1) := by decide +kernel
theorem dc_O_lock_43 : decode cb_O_lock 43 = .ok (.iconst 1, 1) := by decide +kernel
theorem dc_O_lock_44 : decode cb_O_lock 44 = .ok (.if_icmp .ne 12, 3) := by decide +kernel
theorem dc_O_lock_47 : decode cb_O_lock 47 = .ok (.aload_n 0, 1) := by decide +kernel
theorem dc_O_lock_48 : decode cb_O_lock 48 = .ok (.getfield 83, 3) := by decide +kernel
theorem dc_O_lock_51 : decode cb_O_lock 51 = .ok (.iload_n 1, 1) := by decide +kernel
theorem dc_O_lock_52 : decode cb_O_lock 52 = .ok (.iaload, 1) := by decide +kernel
theorem dc_O_lock_53 : decode cb_O_lock 53 = .ok (.goto 23, 3) := by decide +kernel
theorem dc_O_lock_56 : decode cb_O_lock 56 = .ok (.iload_n 2, 1) := by decide +kernel
theorem dc_O_lock_57 : decode cb_O_lock 57 = .ok (.iconst 2, 1) := by decide +kernel
theorem dc_O_lock_58 : decode cb_O_lock 58 = .ok (.if_icmp .ne 12, 3) := by decide +kernel
theorem dc_O_lock_61 : decode cb_O_lock 61 = .ok (.aload_n 0, 1) := by decide +kernel
theorem dc_O_lock_62 : decode cb_O_lock 62 = .ok (.getfield 89, 3) := by decide +kernel
theorem dc_O_lock_65 : decode cb_O_lock 65 = .ok (.iload_n 1, 1) := by decide +kernel
theorem dc_O_lock_66 : decode cb_O_lock 66 = .ok (.iaload, 1) := by decide +kernel
theorem dc_O_lock_67 : decode cb_O_lock 67 = .ok (.goto 9, 3) := by decide +kernel
theorem dc_O_lock_70 : decode cb_O_lock 70 = .ok (.aload_n 0, 1) := by decide +kernel
theorem dc_O_lock_71 : decode cb_O_lock 71 = .ok (.getfield 95, 3) := by decide +kernel
theorem dc_O_lock_74 : decode cb_O_lock 74 = .ok (.iload_n 1, 1) := by decide +kernel
theorem dc_O_lock_75 : decode cb_O_lock 75 = .ok (.iaload, 1) := by decide +kernel
theorem dc_O_lock_76 : decode cb_O_lock 76 = .ok (.ireturn, 1) := by decide +kernel
theorem dc_O_said_0 : decode cb_O_said 0 = .ok (.aload_n 0, 1) := by decide +kernel
theorem dc_O_said_1 : decode cb_O_said 1 = .ok (.iconst 0, 1) := by decide +kernel
theorem dc_O_said_2 : decode cb_O_said 2 = .ok (.putfield 114, 3) := by decide +kernel
theorem dc_O_said_5 : decode cb_O_said 5 = .ok (.iload_n 1, 1) := by decide +kernel
theorem dc_O_said_6 : decode cb_O_said 6 = .ok (.iconst 0, 1) := by decide +kernel
theorem dc_O_said_7 : decode cb_O_said 7 = .ok (.bipush 39, 2) := by decide +kernel
theorem dc_O_said_9 : decode cb_O_said 9 = .ok (.invokestatic 117, 3) := by decide +kernel
theorem dc_O_said_12 : decode cb_O_said 12 = .ok (.ifCond .eq 22, 3) := by decide +kernel
theorem dc_O_said_15 : decode cb_O_said 15 = .ok (.iload_n 1, 1) := by decide +kernel
theorem dc_O_said_16 : decode cb_O_said 16 = .ok (.aload_n 0, 1) := by decide +kernel
theorem dc_O_said_17 : decode cb_O_said 17 = .ok (.getfield 107, 3) := by decide +kernel
theorem dc_O_said_20 : decode cb_O_said 20 = .ok (.iconst 0, 1) := by decide +kernel
theorem dc_O_said_21 : decode cb_O_said 21 = .ok (.iaload, 1) := by decide +kernel
theorem dc_O_said_22 : decode cb_O_said 22 = .ok (.if_icmp .ge 12, 3) := by decide +kernel
theorem dc_O_said_25 : decode cb_O_said 25 = .ok (.aload_n 0, 1) := by decide +kernel
theorem dc_O_said_26 : decode cb_O_said 26 = .ok (.getfield 104, 3) := by decide +kernel
theorem dc_O_said_29 : decode cb_O_said 29 = .ok (.iload_n 1, 1) := by decide +kernel
theorem dc_O_said_30 : decode cb_O_said 30 = .ok (.iaload, 1) := by decide +kernel
theorem dc_O_said_31 : decode cb_O_said 31 = .ok (.goto 8, 3) := by decide +kernel
theorem dc_O_said_34 : decode cb_O_said 34 = .ok (.aload_n 0, 1) := by decide +kernel
theorem dc_O_said_35 : decode cb_O_said 35 = .ok (.iconst 1, 1) := by decide +kernel
theorem dc_O_said_36 : decode cb_O_said 36 = .ok (.invokevirtual 124, 3) := by decide +kernel
theorem dc_O_said_39 : decode cb_O_said 39 = .ok (.ireturn, 1) := by decide +kernel
theorem dc_O_slice_0 : decode cb_O_slice 0 = .ok (.aload_n 0, 1) := by decide +kernel
theorem dc_O_slice_1 : decode cb_O_slice 1 = .ok (.iconst 0, 1) := by decide +kernel
theorem dc_O_slice_2 : decode cb_O_slice 2 = .ok (.putfield 114, 3) := by decide +kernel
theorem dc_O_slice_5 : decode cb_O_slice 5 = .ok (.iload_n 1, 1) := by decide +kernel
theorem dc_O_slice_6 : decode cb_O_slice 6 = .ok (.iconst 1, 1) := by decide +kernel
theorem dc_O_slice_7 : decode cb_O_slice 7 = .ok (.bipush 20, 2) := by decide +kernel
theorem dc_O_slice_9 : decode cb_O_slice 9 = .ok (.invokestatic 117, 3) := by decide +kernel
theorem dc_O_slice_12 : decode cb_O_slice 12 = .ok (.ifCond .ne 9, 3) := by decide +kernel
theorem dc_O_slice_15 : decode cb_O_slice 15 = .ok (.aload_n 0, 1) := by decide +kernel
theorem dc_O_slice_16 : decode cb_O_slice 16 = .ok (.iconst 1, 1) := by decide +kernel
theorem dc_O_slice_17 : decode cb_O_slice 17 = .ok (.invokevirtual 124, 3) := by decide +kernel
theorem dc_O_slice_20 : decode cb_O_slice 20 = .ok (.ireturn, 1) := by decide +kernel
theorem dc_O_slice_21 : decode cb_O_slice 21 = .ok (.aload_n 0, 1) := by decide +kernel
theorem dc_O_slice_22 : decode cb_O_slice 22 = .ok (.getfield 110, 3) := by decide +kernel
theorem dc_O_slice_25 : decode cb_O_slice 25 = .ok (.istore_n 2, 1) := by decide +kernel
theorem dc_O_slice_26 : decode cb_O_slice 26 = .ok (.aload_n 0, 1) := by decide +kernel
theorem dc_O_slice_27 : decode cb_O_slice 27 = .ok (.iload_n 1, 1) := by decide +kernel
theorem dc_O_slice_28 : decode cb_O_slice 28 = .ok (.putfield 110, 3) := by decide +kernel
theorem dc_O_slice_31 : decode cb_O_slice 31 = .ok (.iload_n 2, 1) := by decide +kernel
theorem dc_O_slice_32 : decode cb_O_slice 32 = .ok (.ireturn, 1) := by decide +kernel
theorem dc_O_count_0 : decode cb_O_count 0 = .ok (.aload_n 0, 1) := by decide +kernel
theorem dc_O_count_1 : decode cb_O_count 1 = .ok (.iconst 0, 1) := by decide +kernel
theorem dc_O_count_2 : decode cb_O_count 2 = .ok (.putfield 114, 3) := by decide +kernel
theorem dc_O_count_5 : decode cb_O_count 5 = .ok (.iload_n 1, 1) := by decide +kernel
theorem dc_O_count_6 : decode cb_O_count 6 = .ok (.iconst 0, 1) := by decide +kernel
theorem dc_O_count_7 : decode cb_O_count 7 = .ok (.bipush 7, 2) := by decide +kernel
theorem dc_O_count_9 : decode cb_O_count 9 = .ok (.invokestatic 117, 3) := by decide +kernel
theorem dc_O_count_12 : decode cb_O_count 12 = .ok (.ifCond .ne 9, 3) := by decide +kernel
theorem dc_O_count_15 : decode cb_O_count 15 = .ok (.aload_n 0, 1) := by decide +kernel
theorem dc_O_count_16 : decode cb_O_count 16 = .ok (.iconst 1, 1) := by decide +kernel
theorem dc_O_count_17 : decode cb_O_count 17 = .ok (.invokevirtual 124, 3) := by decide +kernel
theorem dc_O_count_20 : decode cb_O_count 20 = .ok (.ireturn, 1) := by decide +kernel
theorem dc_O_count_21 : decode cb_O_count 21 = .ok (.iload_n 1, 1) := by decide +kernel
theorem dc_O_count_22 : decode cb_O_count 22 = .ok (.iconst 3, 1) := by decide +kernel
theorem dc_O_count_23 : decode cb_O_count 23 = .ok (.if_icmp .eq 15, 3) := by decide +kernel
theorem dc_O_count_26 : decode cb_O_count 26 = .ok (.iload_n 1, 1) := by decide +kernel
theorem dc_O_count_27 : decode cb_O_count 27 = .ok (.iconst 4, 1) := by decide +kernel
theorem dc_O_count_28 : decode cb_O_count 28 = .ok (.if_icmp .eq 10, 3) := by decide +kernel
theorem dc_O_count_31 : decode cb_O_count 31 = .ok (.aload_n 0, 1) := by decide +kernel
theorem dc_O_count_32 : decode cb_O_count 32 = .ok (.getfield 107, 3) := by decide +kernel
theorem dc_O_count_35 : decode cb_O_count 35 = .ok (.iload_n 1, 1) := by decide +kernel
theorem dc_O_count_36 : decode cb_O_count 36 = .ok (.iaload, 1) := by decide +kernel
theorem dc_O_count_37 : decode cb_O_count 37 = .ok (.ireturn, 1) := by decide +kernel
theorem dc_O_count_38 : decode cb_O_count 38 = .ok (.iconst 0, 1) := by decide +kernel
theorem dc_O_count_39 : decode cb_O_count 39 = .ok (.istore_n 2, 1) := by decide +kernel
theorem dc_O_count_40 : decode cb_O_count 40 = .ok (.iconst 0, 1) := by decide +kernel
theorem dc_O_count_41 : decode cb_O_count 41 = .ok (.istore_n 3, 1) := by decide +kernel
theorem dc_O_count_42 : decode cb_O_count 42 = .ok (.iload_n 3, 1) := by decide +kernel
theorem dc_O_count_43 : decode cb_O_count 43 = .ok (.iconst 5, 1) := by decide +kernel
theorem dc_O_count_44 : decode cb_O_count 44 = .ok (.if_icmp .ge 38, 3) := by decide +kernel
theorem dc_O_count_47 : decode cb_O_count 47 = .ok (.iload_n 1, 1) := by decide +kernel
theorem dc_O_count_48 : decode cb_O_count 48 = .ok (.iconst 3, 1) := by decide +kernel
theorem dc_O_count_49 : decode cb_O_count 49 = .ok (.if_icmp .ne 14, 3) := by decide +kernel
theorem dc_O_count_52 : decode cb_O_count 52 = .ok (.aload_n 0, 1) := by decide +kernel
theorem dc_O_count_53 : decode cb_O_count 53 = .ok (.iload_n 3, 1) := by decide +kernel
theorem dc_O_count_54 : decode cb_O_count 54 = .ok (.invokevirtual 128, 3) := by decide +kernel
theorem dc_O_count_57 : decode cb_O_count 57 = .ok (.ifCond .eq 19, 3) := by decide +kernel
theorem dc_O_count_60 : decode cb_O_count 60 = .ok (.goto 13, 3) := by decide +kernel
theorem dc_O_count_63 : decode cb_O_count 63 = .ok (.aload_n 0, 1) := by decide +kernel
theorem dc_O_count_64 : decode cb_O_count 64 = .ok (.getfield 43, 3) := by decide +kernel
theorem dc_O_count_67 : decode cb_O_count 67 = .ok (.iload_n 3, 1) := by decide +kernel
theorem dc_O_count_68 : decode cb_O_count 68 = .ok (.iaload, 1) := by decide +kernel
theorem dc_O_count_69 : decode cb_O_count 69 = .ok (.iconst 1, 1) := by decide +kernel
theorem dc_O_count_70 : decode cb_O_count 70 = .ok (.if_icmp .ne 6, 3) := by decide +kernel
theorem dc_O_count_73 : decode cb_O_count 73 = .ok (.iinc 2 1, 3) := by decide +kernel
theorem dc_O_count_76 : decode cb_O_count 76 = .ok (.iinc 3 1, 3) := by decide +kernel
theorem dc_O_count_79 : decode cb_O_count 79 = .ok (.goto (-37), 3) := by decide +kernel
theorem dc_O_count_82 : decode cb_O_count 82 = .ok (.iload_n 2, 1) := by decide +kernel
theorem dc_O_count_83 : decode cb_O_count 83 = .ok (.ireturn, 1) := by decide +kernel
theorem dc_O_add_0 : decode cb_O_add 0 = .ok (.aload_n 0, 1) := by decide +kernel
theorem dc_O_add_1 : decode cb_O_add 1 = .ok (.iconst 0, 1) := by decide +kernel
theorem dc_O_add_2 : decode cb_O_add 2 = .ok (.putfield 114, 3) := by decide +kernel
theorem dc_O_add_5 : decode cb_O_add 5 = .ok (.iload_n 1, 1) := by decide +kernel
theorem dc_O_add_6 : decode cb_O_add 6 = .ok (.iconst 0, 1) := by decide +kernel
theorem dc_O_add_7 : decode cb_O_add 7 = .ok (.iconst 4, 1) := by decide +kernel
theorem dc_O_add_8 : decode cb_O_add 8 = .ok (.invokestatic 117, 3) := by decide +kernel
theorem dc_O_add_11 : decode cb_O_add 11 = .ok (.ifCond .eq 13, 3) := by decide +kernel
theorem dc_O_add_14 : decode cb_O_add 14 = .ok (.iload_n 2, 1) := by decide +kernel
theorem dc_O_add_15 : decode cb_O_add 15 = .ok (.iload_n 3, 1) := by decide +kernel
theorem dc_O_add_16 : decode cb_O_add 16 = .ok (.iload 4, 2) := by decide +kernel
theorem dc_O_add_18 : decode cb_O_add 18 = .ok (.invokestatic 121, 3) := by decide +kernel
theorem dc_O_add_21 : decode cb_O_add 21 = .ok (.ifCond .ne 9, 3) := by decide +kernel
theorem dc_O_add_24 : decode cb_O_add 24 = .ok (.aload_n 0, 1) := by decide +kernel
theorem dc_O_add_25 : decode cb_O_add 25 = .ok (.iconst 1, 1) := by decide +kernel
theorem dc_O_add_26 : decode cb_O_add 26 = .ok (.invokevirtual 124, 3) := by decide +kernel
theorem dc_O_add_29 : decode cb_O_add 29 = .ok (.ireturn, 1) := by decide +kernel
theorem dc_O_add_30 : decode cb_O_add 30 = .ok (.aload_n 0, 1) := by decide +kernel
theorem dc_O_add_31 : decode cb_O_add 31 = .ok (.iload_n 1, 1) := by decide +kernel
theorem dc_O_add_32 : decode cb_O_add 32 = .ok (.invokevirtual 128, 3) := by decide +kernel
theorem dc_O_add_35 : decode cb_O_add 35 = .ok (.ifCond .eq 9, 3) := by decide +kernel
theorem dc_O_add_38 : decode cb_O_add 38 = .ok (.aload_n 0, 1) := by decide +kernel
theorem dc_O_add_39 : decode cb_O_add 39 = .ok (.iconst 2, 1) := by decide +kernel
theorem dc_O_add_40 : decode cb_O_add 40 = .ok (.invokevirtual 124, 3) := by decide +kernel
theorem dc_O_add_43 : decode cb_O_add 43 = .ok (.ireturn, 1) := by decide +kernel
theorem dc_O_add_44 : decode cb_O_add 44 = .ok (.aload_n 0, 1) := by decide +kernel
theorem dc_O_add_45 : decode cb_O_add 45 = .ok (.getfield 19, 3) := by decide +kernel
theorem dc_O_add_48 : decode cb_O_add 48 = .ok (.iload_n 1, 1) := by decide +kernel
theorem dc_O_add_49 : decode cb_O_add 49 = .ok (.iaload, 1) := by decide +kernel
theorem dc_O_add_50 : decode cb_O_add 50 = .ok (.bipush 24, 2) := by decide +kernel
theorem dc_O_add_52 : decode cb_O_add 52 = .ok (.if_icmp .ne 9, 3) := by decide +kernel
theorem dc_O_add_55 : decode cb_O_add 55 = .ok (.aload_n 0, 1) := by decide +kernel
theorem dc_O_add_56 : decode cb_O_add 56 = .ok (.iconst 3, 1) := by decide +kernel
theorem dc_O_add_57 : decode cb_O_add 57 = .ok (.invokevirtual 124, 3) := by decide +kernel
theorem dc_O_add_60 : decode cb_O_add 60 = .ok (.ireturn, 1) := by decide +kernel
theorem dc_O_add_61 : decode cb_O_add 61 = .ok (.bipush 24, 2) := by decide +kernel
theorem dc_O_add_63 : decode cb_O_add 63 = .ok (.iload_n 1, 1) := by decide +kernel
theorem dc_O_add_64 : decode cb_O_add 64 = .ok (.imul, 1) := by decide +kernel
theorem dc_O_add_65 : decode cb_O_add 65 = .ok (.aload_n 0, 1) := by decide +kernel
theorem dc_O_add_66 : decode cb_O_add 66 = .ok (.getfield 19, 3) := by decide +kernel
theorem dc_O_add_69 : decode cb_O_add 69 = .ok (.iload_n 1, 1) := by decide +kernel
theorem dc_O_add_70 : decode cb_O_add 70 = .ok (.iaload, 1) := by decide +kernel
theorem dc_O_add_71 : decode cb_O_add 71 = .ok (.iadd, 1) := by decide +kernel
theorem dc_O_add_72 : decode cb_O_add 72 = .ok (.istore 5, 2) := by decide +kernel
theorem dc_O_add_74 : decode cb_O_add 74 = .ok (.aload_n 0, 1) := by decide +kernel
theorem dc_O_add_75 : decode cb_O_add 75 = .ok (.getfield 7, 3) := by decide +kernel
theorem dc_O_add_78 : decode cb_O_add 78 = .ok (.iload 5, 2) := by decide +kernel
theorem dc_O_add_80 : decode cb_O_add 80 = .ok (.iload_n 2, 1) := by decide +kernel
theorem dc_O_add_81 : decode cb_O_add 81 = .ok (.iastore, 1) := by decide +kernel
theorem dc_O_add_82 : decode cb_O_add 82 = .ok (.aload_n 0, 1) := by decide +kernel
theorem dc_O_add_83 : decode cb_O_add 83 = .ok (.getfield 13, 3) := by decide +kernel
theorem dc_O_add_86 : decode cb_O_add 86 = .ok (.iload 5, 2) := by decide +kernel
theorem dc_O_add_88 : decode cb_O_add 88 = .ok (.iload_n 3, 1) := by decide +kernel
theorem dc_O_add_89 : decode cb_O_add 89 = .ok (.iastore, 1) := by decide +kernel
theorem dc_O_add_90 : decode cb_O_add 90 = .ok (.aload_n 0, 1) := by decide +kernel
theorem dc_O_add_91 : decode cb_O_add 91 = .ok (.getfield 16, 3) := by decide +kernel
theorem dc_O_add_94 : decode cb_O_add 94 = .ok (.iload 5, 2) := by decide +kernel
theorem dc_O_add_96 : decode cb_O_add 96 = .ok (.iload 4, 2) := by decide +kernel
theorem dc_O_add_98 : decode cb_O_add 98 = .ok (.iastore, 1) := by decide +kernel
theorem dc_O_add_99 : decode cb_O_add 99 = .ok (.aload_n 0, 1) := by decide +kernel
theorem dc_O_add_100 : decode cb_O_add 100 = .ok (.getfield 19, 3) := by decide +kernel
theorem dc_O_add_103 : decode cb_O_add 103 = .ok (.iload_n 1, 1) := by decide +kernel
theorem dc_O_add_104 : decode cb_O_add 104 = .ok (.dup2, 1) := by decide +kernel
theorem dc_O_add_105 : decode cb_O_add 105 = .ok (.iaload, 1) := by decide +kernel
theorem dc_O_add_106 : decode cb_O_add 106 = .ok (.iconst 1, 1) := by decide +kernel
theorem dc_O_add_107 : decode cb_O_add 107 = .ok (.iadd, 1) := by decide +kernel
theorem dc_O_add_108 : decode cb_O_add 108 = .ok (.dup_x2, 1) := by decide +kernel
theorem dc_O_add_109 : decode cb_O_add 109 = .ok (.iastore, 1) := by decide +kernel
theorem dc_O_add_110 : decode cb_O_add 110 = .ok (.ireturn, 1) := by decide +kernel
theorem dc_O_goFor_0 : decode cb_O_goFor 0 = .ok (.aload_n 0, 1) := by decide +kernel
theorem dc_O_goFor_1 : decode cb_O_goFor 1 = .ok (.getfield 80, 3) := by decide +kernel
theorem dc_O_goFor_4 : decode cb_O_goFor 4 = .ok (.iload_n 2, 1) := by decide +kernel
theorem dc_O_goFor_5 : decode cb_O_goFor 5 = .ok (.iaload, 1) := by decide +kernel
theorem dc_O_goFor_6 : decode cb_O_goFor 6 = .ok (.iconst (-1), 1) := by decide +kernel
theorem dc_O_goFor_7 : decode cb_O_goFor 7 = .ok (.if_icmp .eq 13, 3) := by decide +kernel
theorem dc_O_goFor_10 : decode cb_O_goFor 10 = .ok (.aload_n 0, 1) := by decide +kernel
theorem dc_O_goFor_11 : decode cb_O_goFor 11 = .ok (.getfield 80, 3) := by decide +kernel
theorem dc_O_goFor_14 : decode cb_O_goFor 14 = .ok (.iload_n 2, 1) := by decide +kernel
theorem dc_O_goFor_15 : decode cb_O_goFor 15 = .ok (.iaload, 1) := by decide +kernel
theorem dc_O_goFor_16 : decode cb_O_goFor 16 = .ok (.iload_n 1, 1) := by decide +kernel
theorem dc_O_goFor_17 : decode cb_O_goFor 17 = .ok (.if_icmp .ne 28, 3) := by decide +kernel
theorem dc_O_goFor_20 : decode cb_O_goFor 20 = .ok (.aload_n 0, 1) := by decide +kernel
theorem dc_O_goFor_21 : decode cb_O_goFor 21 = .ok (.getfield 80, 3) := by decide +kernel
theorem dc_O_goFor_24 : decode cb_O_goFor 24 = .ok (.iload_n 2, 1) := by decide +kernel
theorem dc_O_goFor_25 : decode cb_O_goFor 25 = .ok (.iload_n 1, 1) := by decide +kernel
theorem dc_O_goFor_26 : decode cb_O_goFor 26 = .ok (.iastore, 1) := by decide +kernel
theorem dc_O_goFor_27 : decode cb_O_goFor 27 = .ok (.aload_n 0, 1) := by decide +kernel
theorem dc_O_goFor_28 : decode cb_O_goFor 28 = .ok (.getfield 83, 3) := by decide +kernel
theorem dc_O_goFor_31 : decode cb_O_goFor 31 = .ok (.iload_n 2, 1) := by decide +kernel
theorem dc_O_goFor_32 : decode cb_O_goFor 32 = .ok (.dup2, 1) := by decide +kernel
theorem dc_O_goFor_33 : decode cb_O_goFor 33 = .ok (.iaload, 1) := by decide +kernel
theorem dc_O_goFor_34 : decode cb_O_goFor 34 = .ok (.iload_n 3, 1) := by decide +kernel
theorem dc_O_goFor_35 : decode cb_O_goFor 35 = .ok (.iadd, 1) := by decide +kernel
theorem dc_O_goFor_36 : decode cb_O_goFor 36 = .ok (.iastore, 1) := by decide +kernel
theorem dc_O_goFor_37 : decode cb_O_goFor 37 = .ok (.aload_n 0, 1) := by decide +kernel
theorem dc_O_goFor_38 : decode cb_O_goFor 38 = .ok (.getfield 43, 3) := by decide +kernel
theorem dc_O_goFor_41 : decode cb_O_goFor 41 = .ok (.iload_n 1, 1) := by decide +kernel
theorem dc_O_goFor_42 : decode cb_O_goFor 42 = .ok (.iconst 1, 1) := by decide +kernel
theorem dc_O_goFor_43 : decode cb_O_goFor 43 = .ok (.iastore, 1) := by decide +kernel
theorem dc_O_goFor_44 : decode cb_O_goFor 44 = .ok (.return_, 1) := by decide +kernel
theorem dc_O_goFor_45 : decode cb_O_goFor 45 = .ok (.aload_n 0, 1) := by decide +kernel
theorem dc_O_goFor_46 : decode cb_O_goFor 46 = .ok (.getfield 61, 3) := by decide +kernel
theorem dc_O_goFor_49 : decode cb_O_goFor 49 = .ok (.iload_n 1, 1) := by decide +kernel
theorem dc_O_goFor_50 : decode cb_O_goFor 50 = .ok (.iload_n 2, 1) := by decide +kernel
theorem dc_O_goFor_51 : decode cb_O_goFor 51 = .ok (.iastore, 1) := by decide +kernel
theorem dc_O_goFor_52 : decode cb_O_goFor 52 = .ok (.aload_n 0, 1) := by decide +kernel
theorem dc_O_goFor_53 : decode cb_O_goFor 53 = .ok (.getfield 64, 3) := by decide +kernel
theorem dc_O_goFor_56 : decode cb_O_goFor 56 = .ok (.iload_n 1, 1) := by decide +kernel
theorem dc_O_goFor_57 : decode cb_O_goFor 57 = .ok (.iload_n 3, 1) := by decide +kernel
theorem dc_O_goFor_58 : decode cb_O_goFor 58 = .ok (.iastore, 1) := by decide +kernel
theorem dc_O_goFor_59 : decode cb_O_goFor 59 = .ok (.aload_n 0, 1) := by decide +kernel
theorem dc_O_goFor_60 : decode cb_O_goFor 60 = .ok (.getfield 86, 3) := by decide +kernel
theorem dc_O_goFor_63 : decode cb_O_goFor 63 = .ok (.iconst 5, 1) := by decide +kernel
theorem dc_O_goFor_64 : decode cb_O_goFor 64 = .ok (.iload_n 2, 1) := by decide +kernel
theorem dc_O_goFor_65 : decode cb_O_goFor 65 = .ok (.imul, 1) := by decide +kernel
theorem dc_O_goFor_66 : decode cb_O_goFor 66 = .ok (.aload_n 0, 1) := by decide +kernel
theorem dc_O_goFor_67 : decode cb_O_goFor 67 = .ok (.getfield 89, 3) := by decide +kernel
theorem dc_O_goFor_70 : decode cb_O_goFor 70 = .ok (.iload_n 2, 1) := by decide +kernel
theorem dc_O_goFor_71 : decode cb_O_goFor 71 = .ok (.dup2, 1) := by decide +kernel
theorem dc_O_goFor_72 : decode cb_O_goFor 72 = .ok (.iaload, 1) := by decide +kernel
theorem dc_O_goFor_73 : decode cb_O_goFor 73 = .ok (.dup_x2, 1) := by decide +kernel
theorem dc_O_goFor_74 : decode cb_O_goFor 74 = .ok (.iconst 1, 1) := by decide +kernel
theorem dc_O_goFor_75 : decode cb_O_goFor 75 = .ok (.iadd, 1) := by decide +kernel
theorem dc_O_goFor_76 : decode cb_O_goFor 76 = .ok (.iastore, 1) := by decide +kernel
theorem dc_O_goFor_77 : decode cb_O_goFor 77 = .ok (.iadd, 1) := by decide +kernel
theorem dc_O_goFor_78 : decode cb_O_goFor 78 = .ok (.iload_n 1, 1) := by decide +kernel
theorem dc_O_goFor_79 : decode cb_O_goFor 79 = .ok (.iastore, 1) := by decide +kernel
theorem dc_O_goFor_80 : decode cb_O_goFor 80 = .ok (.aload_n 0, 1) := by decide +kernel
theorem dc_O_goFor_81 : decode cb_O_goFor 81 = .ok (.getfield 43, 3) := by decide +kernel
theorem dc_O_goFor_84 : decode cb_O_goFor 84 = .ok (.iload_n 1, 1) := by decide +kernel
theorem dc_O_goFor_85 : decode cb_O_goFor 85 = .ok (.iconst 2, 1) := by decide +kernel
theorem dc_O_goFor_86 : decode cb_O_goFor 86 = .ok (.iastore, 1) := by decide +kernel
theorem dc_O_goFor_87 : decode cb_O_goFor 87 = .ok (.return_, 1) := by decide +kernel
theorem dc_O_pass_0 : decode cb_O_pass 0 = .ok (.aload_n 0, 1) := by decide +kernel
theorem dc_O_pass_1 : decode cb_O_pass 1 = .ok (.getfield 80, 3) := by decide +kernel
theorem dc_O_pass_4 : decode cb_O_pass 4 = .ok (.iload_n 1, 1) := by decide +kernel
theorem dc_O_pass_5 : decode cb_O_pass 5 = .ok (.iconst (-1), 1) := by decide +kernel
theorem dc_O_pass_6 : decode cb_O_pass 6 = .ok (.iastore, 1) := by decide +kernel
theorem dc_O_pass_7 : decode cb_O_pass 7 = .ok (.aload_n 0, 1) := by decide +kernel
theorem dc_O_pass_8 : decode cb_O_pass 8 = .ok (.getfield 83, 3) := by decide +kernel
theorem dc_O_pass_11 : decode cb_O_pass 11 = .ok (.iload_n 1, 1) := by decide +kernel
theorem dc_O_pass_12 : decode cb_O_pass 12 = .ok (.iconst 0, 1) := by decide +kernel
theorem dc_O_pass_13 : decode cb_O_pass 13 = .ok (.iastore, 1) := by decide +kernel
theorem dc_O_pass_14 : decode cb_O_pass 14 = .ok (.aload_n 0, 1) := by decide +kernel
theorem dc_O_pass_15 : decode cb_O_pass 15 = .ok (.getfield 89, 3) := by decide +kernel
theorem dc_O_pass_18 : decode cb_O_pass 18 = .ok (.iload_n 1, 1) := by decide +kernel
theorem dc_O_pass_19 : decode cb_O_pass 19 = .ok (.iaload, 1) := by decide +kernel
theorem dc_O_pass_20 : decode cb_O_pass 20 = .ok (.ifCond .ne 4, 3) := by decide +kernel
theorem dc_O_pass_23 : decode cb_O_pass 23 = .ok (.return_, 1) := by decide +kernel
theorem dc_O_pass_24 : decode cb_O_pass 24 = .ok (.aload_n 0, 1) := by decide +kernel
theorem dc_O_pass_25 : decode cb_O_pass 25 = .ok (.getfield 86, 3) := by decide +kernel
theorem dc_O_pass_28 : decode cb_O_pass 28 = .ok (.iconst 5, 1) := by decide +kernel
theorem dc_O_pass_29 : decode cb_O_pass 29 = .ok (.iload_n 1, 1) := by decide +kernel
theorem dc_O_pass_30 : decode cb_O_pass 30 = .ok (.imul, 1) := by decide +kernel
theorem dc_O_pass_31 : decode cb_O_pass 31 = .ok (.iaload, 1) := by decide +kernel
theorem dc_O_pass_32 : decode cb_O_pass 32 = .ok (.istore_n 2, 1) := by decide +kernel
theorem dc_O_pass_33 : decode cb_O_pass 33 = .ok (.aload_n 0, 1) := by decide +kernel
theorem dc_O_pass_34 : decode cb_O_pass 34 = .ok (.getfield 89, 3) := by decide +kernel
theorem dc_O_pass_37 : decode cb_O_pass 37 = .ok (.iload_n 1, 1) := by decide +kernel
theorem dc_O_pass_38 : decode cb_O_pass 38 = .ok (.dup2, 1) := by decide +kernel
theorem dc_O_pass_39 : decode cb_O_pass 39 = .ok (.iaload, 1) := by decide +kernel
theorem dc_O_pass_40 : decode cb_O_pass 40 = .ok (.iconst 1, 1) := by decide +kernel
theorem dc_O_pass_41 : decode cb_O_pass 41 = .ok (.isub, 1) := by decide +kernel
theorem dc_O_pass_42 : decode cb_O_pass 42 = .ok (.iastore, 1) := by decide +kernel
theorem dc_O_pass_43 : decode cb_O_pass 43 = .ok (.iconst 0, 1) := by decide +kernel
theorem dc_O_pass_44 : decode cb_O_pass 44 = .ok (.istore_n 3, 1) := by decide +kernel
theorem dc_O_pass_45 : decode cb_O_pass 45 = .ok (.iload_n 3, 1) := by decide +kernel
theorem dc_O_pass_46 : decode cb_O_pass 46 = .ok (.aload_n 0, 1) := by decide +kernel
theorem dc_O_pass_47 : decode cb_O_pass 47 = .ok (.getfield 89, 3) := by decide +kernel
theorem dc_O_pass_50 : decode cb_O_pass 50 = .ok (.iload_n 1, 1) := by decide +kernel
theorem dc_O_pass_51 : decode cb_O_pass 51 = .ok (.iaload, 1) := by decide +kernel
theorem dc_O_pass_52 : decode cb_O_pass 52 = .ok (.if_icmp .ge 31, 3) := by decide +kernel
theorem dc_O_pass_55 : decode cb_O_pass 55 = .ok (.aload_n 0, 1) := by decide +kernel
theorem dc_O_pass_56 : decode cb_O_pass 56 = .ok (.getfield 86, 3) := by decide +kernel
theorem dc_O_pass_59 : decode cb_O_pass 59 = .ok (.iconst 5, 1) := by decide +kernel
theorem dc_O_pass_60 : decode cb_O_pass 60 = .ok (.iload_n 1, 1) := by decide +kernel
theorem dc_O_pass_61 : decode cb_O_pass 61 = .ok (.imul, 1) := by decide +kernel
theorem dc_O_pass_62 : decode cb_O_pass 62 = .ok (.iload_n 3, 1) := by decide +kernel
theorem dc_O_pass_63 : decode cb_O_pass 63 = .ok (.iadd, 1) := by decide +kernel
theorem dc_O_pass_64 : decode cb_O_pass 64 = .ok (.aload_n 0, 1) := by decide +kernel
theorem dc_O_pass_65 : decode cb_O_pass 65 = .ok (.getfield 86, 3) := by decide +kernel
theorem dc_O_pass_68 : decode cb_O_pass 68 = .ok (.iconst 5, 1) := by decide +kernel
theorem dc_O_pass_69 : decode cb_O_pass 69 = .ok (.iload_n 1, 1) := by decide +kernel
theorem dc_O_pass_70 : decode cb_O_pass 70 = .ok (.imul, 1) := by decide +kernel
theorem dc_O_pass_71 : decode cb_O_pass 71 = .ok (.iload_n 3, 1) := by decide +kernel
theorem dc_O_pass_72 : decode cb_O_pass 72 = .ok (.iadd, 1) := by decide +kernel
theorem dc_O_pass_73 : decode cb_O_pass 73 = .ok (.iconst 1, 1) := by decide +kernel
theorem dc_O_pass_74 : decode cb_O_pass 74 = .ok (.iadd, 1) := by decide +kernel
theorem dc_O_pass_75 : decode cb_O_pass 75 = .ok (.iaload, 1) := by decide +kernel
theorem dc_O_pass_76 : decode cb_O_pass 76 = .ok (.iastore, 1) := by decide +kernel
theorem dc_O_pass_77 : decode cb_O_pass 77 = .ok (.iinc 3 1, 3) := by decide +kernel
theorem dc_O_pass_80 : decode cb_O_pass 80 = .ok (.goto (-35), 3) := by decide +kernel
theorem dc_O_pass_83 : decode cb_O_pass 83 = .ok (.aload_n 0, 1) := by decide +kernel
theorem dc_O_pass_84 : decode cb_O_pass 84 = .ok (.getfield 80, 3) := by decide +kernel
theorem dc_O_pass_87 : decode cb_O_pass 87 = .ok (.iload_n 1, 1) := by decide +kernel
theorem dc_O_pass_88 : decode cb_O_pass 88 = .ok (.iload_n 2, 1) := by decide +kernel
theorem dc_O_pass_89 : decode cb_O_pass 89 = .ok (.iastore, 1) := by decide +kernel
theorem dc_O_pass_90 : decode cb_O_pass 90 = .ok (.aload_n 0, 1) := by decide +kernel
theorem dc_O_pass_91 : decode cb_O_pass 91 = .ok (.getfield 83, 3) := by decide +kernel
theorem dc_O_pass_94 : decode cb_O_pass 94 = .ok (.iload_n 1, 1) := by decide +kernel
theorem dc_O_pass_95 : decode cb_O_pass 95 = .ok (.aload_n 0, 1) := by decide +kernel
theorem dc_O_pass_96 : decode cb_O_pass 96 = .ok (.getfield 64, 3) := by decide +kernel
theorem dc_O_pass_99 : decode cb_O_pass 99 = .ok (.iload_n 2, 1) := by decide +kernel
theorem dc_O_pass_100 : decode cb_O_pass 100 = .ok (.iaload, 1) := by decide +kernel
theorem dc_O_pass_101 : decode cb_O_pass 101 = .ok (.iastore, 1) := by decide +kernel
theorem dc_O_pass_102 : decode cb_O_pass 102 = .ok (.aload_n 0, 1) := by decide +kernel
theorem dc_O_pass_103 : decode cb_O_pass 103 = .ok (.getfield 43, 3) := by decide +kernel
theorem dc_O_pass_106 : decode cb_O_pass 106 = .ok (.iload_n 2, 1) := by decide +kernel
theorem dc_O_pass_107 : decode cb_O_pass 107 = .ok (.iconst 1, 1) := by decide +kernel
theorem dc_O_pass_108 : decode cb_O_pass 108 = .ok (.iastore, 1) := by decide +kernel
theorem dc_O_pass_109 : decode cb_O_pass 109 = .ok (.return_, 1) := by decide +kernel
theorem dc_O_leaveWait_0 : decode cb_O_leaveWait 0 = .ok (.aload_n 0, 1) := by decide +kernel
theorem dc_O_leaveWait_1 : decode cb_O_leaveWait 1 = .ok (.getfield 67, 3) := by decide +kernel
theorem dc_O_leaveWait_4 : decode cb_O_leaveWait 4 = .ok (.iload_n 1, 1) := by decide +kernel
theorem dc_O_leaveWait_5 : decode cb_O_leaveWait 5 = .ok (.iaload, 1) := by decide +kernel
theorem dc_O_leaveWait_6 : decode cb_O_leaveWait 6 = .ok (.istore_n 2, 1) := by decide +kernel
theorem dc_O_leaveWait_7 : decode cb_O_leaveWait 7 = .ok (.iconst 0, 1) := by decide +kernel
theorem dc_O_leaveWait_8 : decode cb_O_leaveWait 8 = .ok (.istore_n 3, 1) := by decide +kernel
theorem dc_O_leaveWait_9 : decode cb_O_leaveWait 9 = .ok (.iconst 0, 1) := by decide +kernel
theorem dc_O_leaveWait_10 : decode cb_O_leaveWait 10 = .ok (.istore 4, 2) := by decide +kernel
theorem dc_O_leaveWait_12 : decode cb_O_leaveWait 12 = .ok (.iload 4, 2) := by decide +kernel
theorem dc_O_leaveWait_14 : decode cb_O_leaveWait 14 = .ok (.aload_n 0, 1) := by decide +kernel
theorem dc_O_leaveWait_15 : decode cb_O_leaveWait 15 = .ok (.getfield 95, 3) := by decide +kernel
theorem dc_O_leaveWait_18 : decode cb_O_leaveWait 18 = .ok (.iload_n 2, 1) := by decide +kernel
theorem dc_O_leaveWait_19 : decode cb_O_leaveWait 19 = .ok (.iaload, 1) := by decide +kernel
theorem dc_O_leaveWait_20 : decode cb_O_leaveWait 20 = .ok (.if_icmp .ge 48, 3) := by decide +kernel
theorem dc_O_leaveWait_23 : decode cb_O_leaveWait 23 = .ok (.aload_n 0, 1) := by decide +kernel
theorem dc_O_leaveWait_24 : decode cb_O_leaveWait 24 = .ok (.getfield 92, 3) := by decide +kernel
theorem dc_O_leaveWait_27 : decode cb_O_leaveWait 27 = .ok (.iconst 5, 1) := by decide +kernel
theorem dc_O_leaveWait_28 : decode cb_O_leaveWait 28 = .ok (.iload_n 2, 1) := by decide +kernel
theorem dc_O_leaveWait_29 : decode cb_O_leaveWait 29 = .ok (.imul, 1) := by decide +kernel
theorem dc_O_leaveWait_30 : decode cb_O_leaveWait 30 = .ok (.iload 4, 2) := by decide +kernel
theorem dc_O_leaveWait_32 : decode cb_O_leaveWait 32 = .ok (.iadd, 1) := by decide +kernel
theorem dc_O_leaveWait_33 : decode cb_O_leaveWait 33 = .ok (.iaload, 1) := by decide +kernel
theorem dc_O_leaveWait_34 : decode cb_O_leaveWait 34 = .ok (.iload_n 1, 1) := by decide +kernel
theorem dc_O_leaveWait_35 : decode cb_O_leaveWait 35 = .ok (.if_icmp .eq 27, 3) := by decide +kernel
theorem dc_O_leaveWait_38 : decode cb_O_leaveWait 38 = .ok (.aload_n 0, 1) := by decide +kernel
theorem dc_O_leaveWait_39 : decode cb_O_leaveWait 39 = .ok (.getfield 92, 3) := by decide +kernel
theorem dc_O_leaveWait_42 : decode cb_O_leaveWait 42 = .ok (.iconst 5, 1) := by decide +kernel
theorem dc_O_leaveWait_43 : decode cb_O_leaveWait 43 = .ok (.iload_n 2, 1) := by decide +kernel
theorem dc_O_leaveWait_44 : decode cb_O_leaveWait 44 = .ok (.imul, 1) := by decide +kernel
theorem dc_O_leaveWait_45 : decode cb_O_leaveWait 45 = .ok (.iload_n 3, 1) := by decide +kernel
theorem dc_O_leaveWait_46 : decode cb_O_leaveWait 46 = .ok (.iinc 3 1, 3) := by decide +kernel
theorem dc_O_leaveWait_49 : decode cb_O_leaveWait 49 = .ok (.iadd, 1) := by decide +kernel
theorem dc_O_leaveWait_50 : decode cb_O_leaveWait 50 = .ok (.aload_n 0, 1) := by decide +kernel
theorem dc_O_leaveWait_51 : decode cb_O_leaveWait 51 = .ok (.getfield 92, 3) := by decide +kernel
theorem dc_O_leaveWait_54 : decode cb_O_leaveWait 54 = .ok (.iconst 5, 1) := by decide +kernel
theorem dc_O_leaveWait_55 : decode cb_O_leaveWait 55 = .ok (.iload_n 2, 1) := by decide +kernel
theorem dc_O_leaveWait_56 : decode cb_O_leaveWait 56 = .ok (.imul, 1) := by decide +kernel
theorem dc_O_leaveWait_57 : decode cb_O_leaveWait 57 = .ok (.iload 4, 2) := by decide +kernel
theorem dc_O_leaveWait_59 : decode cb_O_leaveWait 59 = .ok (.iadd, 1) := by decide +kernel
theorem dc_O_leaveWait_60 : decode cb_O_leaveWait 60 = .ok (.iaload, 1) := by decide +kernel
theorem dc_O_leaveWait_61 : decode cb_O_leaveWait 61 = .ok (.iastore, 1) := by decide +kernel
theorem dc_O_leaveWait_62 : decode cb_O_leaveWait 62 = .ok (.iinc 4 1, 3) := by decide +kernel
theorem dc_O_leaveWait_65 : decode cb_O_leaveWait 65 = .ok (.goto (-53), 3) := by decide +kernel
theorem dc_O_leaveWait_68 : decode cb_O_leaveWait 68 = .ok (.aload_n 0, 1) := by decide +kernel
theorem dc_O_leaveWait_69 : decode cb_O_leaveWait 69 = .ok (.getfield 95, 3) := by decide +kernel
theorem dc_O_leaveWait_72 : decode cb_O_leaveWait 72 = .ok (.iload_n 2, 1) := by decide +kernel
theorem dc_O_leaveWait_73 : decode cb_O_leaveWait 73 = .ok (.iload_n 3, 1) := by decide +kernel
theorem dc_O_leaveWait_74 : decode cb_O_leaveWait 74 = .ok (.iastore, 1) := by decide +kernel
theorem dc_O_leaveWait_75 : decode cb_O_leaveWait 75 = .ok (.aload_n 0, 1) := by decide +kernel
theorem dc_O_leaveWait_76 : decode cb_O_leaveWait 76 = .ok (.iload_n 1, 1) := by decide +kernel
theorem dc_O_leaveWait_77 : decode cb_O_leaveWait 77 = .ok (.aload_n 0, 1) := by decide +kernel
theorem dc_O_leaveWait_78 : decode cb_O_leaveWait 78 = .ok (.getfield 61, 3) := by decide +kernel
theorem dc_O_leaveWait_81 : decode cb_O_leaveWait 81 = .ok (.iload_n 1, 1) := by decide +kernel
theorem dc_O_leaveWait_82 : decode cb_O_leaveWait 82 = .ok (.iaload, 1) := by decide +kernel
theorem dc_O_leaveWait_83 : decode cb_O_leaveWait 83 = .ok (.aload_n 0, 1) := by decide +kernel
theorem dc_O_leaveWait_84 : decode cb_O_leaveWait 84 = .ok (.getfield 64, 3) := by decide +kernel
theorem dc_O_leaveWait_87 : decode cb_O_leaveWait 87 = .ok (.iload_n 1, 1) := by decide +kernel
theorem dc_O_leaveWait_88 : decode cb_O_leaveWait 88 = .ok (.iaload, 1) := by decide +kernel
theorem dc_O_leaveWait_89 : decode cb_O_leaveWait 89 = .ok (.invokevirtual 151, 3) := by decide +kernel
theorem dc_O_leaveWait_92 : decode cb_O_leaveWait 92 = .ok (.return_, 1) := by decide +kernel
theorem dc_O_leaveJoin_0 : decode cb_O_leaveJoin 0 = .ok (.aload_n 0, 1) := by decide +kernel
theorem dc_O_leaveJoin_1 : decode cb_O_leaveJoin 1 = .ok (.getfield 67, 3) := by decide +kernel
theorem dc_O_leaveJoin_4 : decode cb_O_leaveJoin 4 = .ok (.iload_n 1, 1) := by decide +kernel
theorem dc_O_leaveJoin_5 : decode cb_O_leaveJoin 5 = .ok (.iaload, 1) := by decide +kernel
theorem dc_O_leaveJoin_6 : decode cb_O_leaveJoin 6 = .ok (.istore_n 2, 1) := by decide +kernel
theorem dc_O_leaveJoin_7 : decode cb_O_leaveJoin 7 = .ok (.iconst 0, 1) := by decide +kernel
theorem dc_O_leaveJoin_8 : decode cb_O_leaveJoin 8 = .ok (.istore_n 3, 1) := by decide +kernel
theorem dc_O_leaveJoin_9 : decode cb_O_leaveJoin 9 = .ok (.iconst 0, 1) := by decide +kernel
theorem dc_O_leaveJoin_10 : decode cb_O_leaveJoin 10 = .ok (.istore 4, 2) := by decide +kernel
theorem dc_O_leaveJoin_12 : decode cb_O_leaveJoin 12 = .ok (.iload 4, 2) := by decide +kernel
theorem dc_O_leaveJoin_14 : decode cb_O_leaveJoin 14 = .ok (.aload_n 0, 1) := by decide +kernel
theorem dc_O_leaveJoin_15 : decode cb_O_leaveJoin 15 = .ok (.getfield 101, 3) := by decide +kernel
theorem dc_O_leaveJoin_18 : decode cb_O_leaveJoin 18 = .ok (.iload_n 2, 1) := by decide +kernel
theorem dc_O_leaveJoin_19 : decode cb_O_leaveJoin 19 = .ok (.iaload, 1) := by decide +kernel
theorem dc_O_leaveJoin_20 : decode cb_O_leaveJoin 20 = .ok (.if_icmp .ge 48, 3) := by decide +kernel
theorem dc_O_leaveJoin_23 : decode cb_O_leaveJoin 23 = .ok (.aload_n 0, 1) := by decide +kernel
theorem dc_O_leaveJoin_24 : decode cb_O_leaveJoin 24 = .ok (.getfield 98, 3) := by decide +kernel
theorem dc_O_leaveJoin_27 : decode cb_O_leaveJoin 27 = .ok (.iconst 5, 1) := by decide +kernel
theorem dc_O_leaveJoin_28 : decode cb_O_leaveJoin 28 = .ok (.iload_n 2, 1) := by decide +kernel
theorem dc_O_leaveJoin_29 : decode cb_O_leaveJoin 29 = .ok (.imul, 1) := by decide +kernel
theorem dc_O_leaveJoin_30 : decode cb_O_leaveJoin 30 = .ok (.iload 4, 2) := by decide +kernel
theorem dc_O_leaveJoin_32 : decode cb_O_leaveJoin 32 = .ok (.iadd, 1) := by decide +kernel
theorem dc_O_leaveJoin_33 : decode cb_O_leaveJoin 33 = .ok (.iaload, 1) := by decide +kernel
theorem dc_O_leaveJoin_34 : decode cb_O_leaveJoin 34 = .ok (.iload_n 1, 1) := by decide +kernel
theorem dc_O_leaveJoin_35 : decode cb_O_leaveJoin 35 = .ok (.if_icmp .eq 27, 3) := by decide +kernel
theorem dc_O_leaveJoin_38 : decode cb_O_leaveJoin 38 = .ok (.aload_n 0, 1) := by decide +kernel
theorem dc_O_leaveJoin_39 : decode cb_O_leaveJoin 39 = .ok (.getfield 98, 3) := by decide +kernel
theorem dc_O_leaveJoin_42 : decode cb_O_leaveJoin 42 = .ok (.iconst 5, 1) := by decide +kernel
theorem dc_O_leaveJoin_43 : decode cb_O_leaveJoin 43 = .ok (.iload_n 2, 1) := by decide +kernel
theorem dc_O_leaveJoin_44 : decode cb_O_leaveJoin 44 = .ok (.imul, 1) := by decide +kernel
theorem dc_O_leaveJoin_45 : decode cb_O_leaveJoin 45 = .ok (.iload_n 3, 1) := by decide +kernel
theorem dc_O_leaveJoin_46 : decode cb_O_leaveJoin 46 = .ok (.iinc 3 1, 3) := by decide +kernel
theorem dc_O_leaveJoin_49 : decode cb_O_leaveJoin 49 = .ok (.iadd, 1) := by decide +kernel
theorem dc_O_leaveJoin_50 : decode cb_O_leaveJoin 50 = .ok (.aload_n 0, 1) := by decide +kernel
theorem dc_O_leaveJoin_51 : decode cb_O_leaveJoin 51 = .ok (.getfield 98, 3) := by decide +kernel
theorem dc_O_leaveJoin_54 : decode cb_O_leaveJoin 54 = .ok (.iconst 5, 1) := by decide +kernel
theorem dc_O_leaveJoin_55 : decode cb_O_leaveJoin 55 = .ok (.iload_n 2, 1) := by decide +kernel
theorem dc_O_leaveJoin_56 : decode cb_O_leaveJoin 56 = .ok (.imul, 1) := by decide +kernel
theorem dc_O_leaveJoin_57 : decode cb_O_leaveJoin 57 = .ok (.iload 4, 2) := by decide +kernel
theorem dc_O_leaveJoin_59 : decode cb_O_leaveJoin 59 = .ok (.iadd, 1) := by decide +kernel
theorem dc_O_leaveJoin_60 : decode cb_O_leaveJoin 60 = .ok (.iaload, 1) := by decide +kernel
theorem dc_O_leaveJoin_61 : decode cb_O_leaveJoin 61 = .ok (.iastore, 1) := by decide +kernel
theorem dc_O_leaveJoin_62 : decode cb_O_leaveJoin 62 = .ok (.iinc 4 1, 3) := by decide +kernel
theorem dc_O_leaveJoin_65 : decode cb_O_leaveJoin 65 = .ok (.goto (-53), 3) := by decide +kernel
theorem dc_O_leaveJoin_68 : decode cb_O_leaveJoin 68 = .ok (.aload_n 0, 1) := by decide +kernel
theorem dc_O_leaveJoin_69 : decode cb_O_leaveJoin 69 = .ok (.getfield 101, 3) := by decide +kernel
theorem dc_O_leaveJoin_72 : decode cb_O_leaveJoin 72 = .ok (.iload_n 2, 1) := by decide +kernel
theorem dc_O_leaveJoin_73 : decode cb_O_leaveJoin 73 = .ok (.iload_n 3, 1) := by decide +kernel
theorem dc_O_leaveJoin_74 : decode cb_O_leaveJoin 74 = .ok (.iastore, 1) := by decide +kernel
theorem dc_O_leaveJoin_75 : decode cb_O_leaveJoin 75 = .ok (.aload_n 0, 1) := by decide +kernel
theorem dc_O_leaveJoin_76 : decode cb_O_leaveJoin 76 = .ok (.getfield 43, 3) := by decide +kernel
theorem dc_O_leaveJoin_79 : decode cb_O_leaveJoin 79 = .ok (.iload_n 1, 1) := by decide +kernel
theorem dc_O_leaveJoin_80 : decode cb_O_leaveJoin 80 = .ok (.iconst 1, 1) := by decide +kernel
theorem dc_O_leaveJoin_81 : decode cb_O_leaveJoin 81 = .ok (.iastore, 1) := by decide +kernel
theorem dc_O_leaveJoin_82 : decode cb_O_leaveJoin 82 = .ok (.return_, 1) := by decide +kernel
theorem dc_O_interrupted_0 : decode cb_O_interrupted 0 = .ok (.aload_n 0, 1) := by decide +kernel
theorem dc_O_interrupted_1 : decode cb_O_interrupted 1 = .ok (.iload_n 1, 1) := by decide +kernel
theorem dc_O_interrupted_2 : decode cb_O_interrupted 2 = .ok (.invokevirtual 128, 3) := by decide +kernel
theorem dc_O_interrupted_5 : decode cb_O_interrupted 5 = .ok (.ifCond .ne 5, 3) := by decide +kernel
theorem dc_O_interrupted_8 : decode cb_O_interrupted 8 = .ok (.iconst 0, 1) := by decide +kernel
theorem dc_O_interrupted_9 : decode cb_O_interrupted 9 = .ok (.ireturn, 1) := by decide +kernel
theorem dc_O_interrupted_10 : decode cb_O_interrupted 10 = .ok (.aload_n 0, 1) := by decide +kernel
theorem dc_O_interrupted_11 : decode cb_O_interrupted 11 = .ok (.getfield 43, 3) := by decide +kernel
theorem dc_O_interrupted_14 : decode cb_O_interrupted 14 = .ok (.iload_n 1, 1) := by decide +kernel
theorem dc_O_interrupted_15 : decode cb_O_interrupted 15 = .ok (.iaload, 1) := by decide +kernel
theorem dc_O_interrupted_16 : decode cb_O_interrupted 16 = .ok (.iconst 3, 1) := by decide +kernel
theorem dc_O_interrupted_17 : decode cb_O_interrupted 17 = .ok (.if_icmp .ne 18, 3) := by decide +kernel
theorem dc_O_interrupted_20 : decode cb_O_interrupted 20 = .ok (.aload_n 0, 1) := by decide +kernel
theorem dc_O_interrupted_21 : decode cb_O_interrupted 21 = .ok (.getfield 77, 3) := by decide +kernel
theorem dc_O_interrupted_24 : decode cb_O_interrupted 24 = .ok (.iload_n 1, 1) := by decide +kernel
theorem dc_O_interrupted_25 : decode cb_O_interrupted 25 = .ok (.iconst 1, 1) := by decide +kernel
theorem dc_O_interrupted_26 : decode cb_O_interrupted 26 = .ok (.bastore, 1) := by decide +kernel
theorem dc_O_interrupted_27 : decode cb_O_interrupted 27 = .ok (.aload_n 0, 1) := by decide +kernel
theorem dc_O_interrupted_28 : decode cb_O_interrupted 28 = .ok (.iload_n 1, 1) := by decide +kernel
theorem dc_O_interrupted_29 : decode cb_O_interrupted 29 = .ok (.invokevirtual 154, 3) := by decide +kernel
theorem dc_O_interrupted_32 : decode cb_O_interrupted 32 = .ok (.goto 35, 3) := by decide +kernel
theorem dc_O_interrupted_35 : decode cb_O_interrupted 35 = .ok (.aload_n 0, 1) := by decide +kernel
theorem dc_O_interrupted_36 : decode cb_O_interrupted 36 = .ok (.getfield 43, 3) := by decide +kernel
theorem dc_O_interrupted_39 : decode cb_O_interrupted 39 = .ok (.iload_n 1, 1) := by decide +kernel
theorem dc_O_interrupted_40 : decode cb_O_interrupted 40 = .ok (.iaload, 1) := by decide +kernel
theorem dc_O_interrupted_41 : decode cb_O_interrupted 41 = .ok (.iconst 4, 1) := by decide +kernel
theorem dc_O_interrupted_42 : decode cb_O_interrupted 42 = .ok (.if_icmp .ne 18, 3) := by decide +kernel
theorem dc_O_interrupted_45 : decode cb_O_interrupted 45 = .ok (.aload_n 0, 1) := by decide +kernel
theorem dc_O_interrupted_46 : decode cb_O_interrupted 46 = .ok (.getfield 77, 3) := by decide +kernel
theorem dc_O_interrupted_49 : decode cb_O_interrupted 49 = .ok (.iload_n 1, 1) := by decide +kernel
theorem dc_O_interrupted_50 : decode cb_O_interrupted 50 = .ok (.iconst 1, 1) := by decide +kernel
theorem dc_O_interrupted_51 : decode cb_O_interrupted 51 = .ok (.bastore, 1) := by decide +kernel
theorem dc_O_interrupted_52 : decode cb_O_interrupted 52 = .ok (.aload_n 0, 1) := by decide +kernel
theorem dc_O_interrupted_53 : decode cb_O_interrupted 53 = .ok (.iload_n 1, 1) := by decide +kernel
theorem dc_O_interrupted_54 : decode cb_O_interrupted 54 = .ok (.invokevirtual 157, 3) := by decide +kernel
theorem dc_O_interrupted_57 : decode cb_O_interrupted 57 = .ok (.goto 10, 3) := by decide +kernel
theorem dc_O_interrupted_60 : decode cb_O_interrupted 60 = .ok (.aload_n 0, 1) := by decide +kernel
theorem dc_O_interrupted_61 : decode cb_O_interrupted 61 = .ok (.getfield 73, 3) := by decide +kernel
theorem dc_O_interrupted_64 : decode cb_O_interrupted 64 = .ok (.iload_n 1, 1) := by decide +kernel
theorem dc_O_interrupted_65 : decode cb_O_interrupted 65 = .ok (.iconst 1, 1) := by decide +kernel
theorem dc_O_interrupted_66 : decode cb_O_interrupted 66 = .ok (.bastore, 1) := by decide +kernel
theorem dc_O_interrupted_67 : decode cb_O_interrupted 67 = .ok (.iconst 1, 1) := by decide +kernel
theorem dc_O_interrupted_68 : decode cb_O_interrupted 68 = .ok (.ireturn, 1) := by decide +kernel
theorem dc_O_interrupt_0 : decode cb_O_interrupt 0 = .ok (.aload_n 0, 1) := by decide +kernel
theorem dc_O_interrupt_1 : decode cb_O_interrupt 1 = .ok (.iconst 0, 1) := by decide +kernel
theorem dc_O_interrupt_2 : decode cb_O_interrupt 2 = .ok (.putfield 114, 3) := by decide +kernel
theorem dc_O_interrupt_5 : decode cb_O_interrupt 5 = .ok (.iload_n 1, 1) := by decide +kernel
theorem dc_O_interrupt_6 : decode cb_O_interrupt 6 = .ok (.iconst 0, 1) := by decide +kernel
theorem dc_O_interrupt_7 : decode cb_O_interrupt 7 = .ok (.iconst 4, 1) := by decide +kernel
theorem dc_O_interrupt_8 : decode cb_O_interrupt 8 = .ok (.invokestatic 117, 3) := by decide +kernel
theorem dc_O_interrupt_11 : decode cb_O_interrupt 11 = .ok (.ifCond .ne 9, 3) := by decide +kernel
theorem dc_O_interrupt_14 : decode cb_O_interrupt 14 = .ok (.aload_n 0, 1) := by decide +kernel
theorem dc_O_interrupt_15 : decode cb_O_interrupt 15 = .ok (.iconst 1, 1) := by decide +kernel
theorem dc_O_interrupt_16 : decode cb_O_interrupt 16 = .ok (.invokevirtual 124, 3) := by decide +kernel
theorem dc_O_interrupt_19 : decode cb_O_interrupt 19 = .ok (.ireturn, 1) := by decide +kernel
theorem dc_O_interrupt_20 : decode cb_O_interrupt 20 = .ok (.aload_n 0, 1) := by decide +kernel
theorem dc_O_interrupt_21 : decode cb_O_interrupt 21 = .ok (.iload_n 1, 1) := by decide +kernel
theorem dc_O_interrupt_22 : decode cb_O_interrupt 22 = .ok (.invokevirtual 185, 3) := by decide +kernel
theorem dc_O_interrupt_25 : decode cb_O_interrupt 25 = .ok (.ifCond .eq 7, 3) := by decide +kernel
theorem dc_O_interrupt_28 : decode cb_O_interrupt 28 = .ok (.iconst 1, 1) := by decide +kernel
theorem dc_O_interrupt_29 : decode cb_O_interrupt 29 = .ok (.goto 4, 3) := by decide +kernel
theorem dc_O_interrupt_32 : decode cb_O_interrupt 32 = .ok (.iconst 0, 1) := by decide +kernel
theorem dc_O_interrupt_33 : decode cb_O_interrupt 33 = .ok (.ireturn, 1) := by decide +kernel
theorem dc_O_end_0 : decode cb_O_end 0 = .ok (.aload_n 0, 1) := by decide +kernel
theorem dc_O_end_1 : decode cb_O_end 1 = .ok (.getfield 40, 3) := by decide +kernel
theorem dc_O_end_4 : decode cb_O_end 4 = .ok (.iload_n 1, 1) := by decide +kernel
theorem dc_O_end_5 : decode cb_O_end 5 = .ok (.iaload, 1) := by decide +kernel
theorem dc_O_end_6 : decode cb_O_end 6 = .ok (.iconst 1, 1) := by decide +kernel
theorem dc_O_end_7 : decode cb_O_end 7 = .ok (.isub, 1) := by decide +kernel
theorem dc_O_end_8 : decode cb_O_end 8 = .ok (.istore_n 3, 1) := by decide +kernel
theorem dc_O_end_9 : decode cb_O_end 9 = .ok (.iload_n 3, 1) := by decide +kernel
theorem dc_O_end_10 : decode cb_O_end 10 = .ok (.ifCond .lt 46, 3) := by decide +kernel
theorem dc_O_end_13 : decode cb_O_end 13 = .ok (.aload_n 0, 1) := by decide +kernel
theorem dc_O_end_14 : decode cb_O_end 14 = .ok (.getfield 34, 3) := by decide +kernel
theorem dc_O_end_17 : decode cb_O_end 17 = .ok (.iconst 4, 1) := by decide +kernel
theorem dc_O_end_18 : decode cb_O_end 18 = .ok (.iload_n 1, 1) := by decide +kernel
theorem dc_O_end_19 : decode cb_O_end 19 = .ok (.imul, 1) := by decide +kernel
theorem dc_O_end_20 : decode cb_O_end 20 = .ok (.iload_n 3, 1) := by decide +kernel
theorem dc_O_end_21 : decode cb_O_end 21 = .ok (.iadd, 1) := by decide +kernel
theorem dc_O_end_22 : decode cb_O_end 22 = .ok (.iaload, 1) := by decide +kernel
theorem dc_O_end_23 : decode cb_O_end 23 = .ok (.istore 4, 2) := by decide +kernel
theorem dc_O_end_25 : decode cb_O_end 25 = .ok (.aload_n 0, 1) := by decide +kernel
theorem dc_O_end_26 : decode cb_O_end 26 = .ok (.iload_n 1, 1) := by decide +kernel
theorem dc_O_end_27 : decode cb_O_end 27 = .ok (.iload 4, 2) := by decide +kernel
theorem dc_O_end_29 : decode cb_O_end 29 = .ok (.aload_n 0, 1) := by decide +kernel
theorem dc_O_end_30 : decode cb_O_end 30 = .ok (.iload_n 1, 1) := by decide +kernel
theorem dc_O_end_31 : decode cb_O_end 31 = .ok (.iload 4, 2) := by decide +kernel
theorem dc_O_end_33 : decode cb_O_end 33 = .ok (.invokevirtual 136, 3) := by decide +kernel
theorem dc_O_end_36 : decode cb_O_end 36 = .ok (.aload_n 0, 1) := by decide +kernel
theorem dc_O_end_37 : decode cb_O_end 37 = .ok (.getfield 37, 3) := by decide +kernel
theorem dc_O_end_40 : decode cb_O_end 40 = .ok (.iconst 4, 1) := by decide +kernel
theorem dc_O_end_41 : decode cb_O_end 41 = .ok (.iload_n 1, 1) := by decide +kernel
theorem dc_O_end_42 : decode cb_O_end 42 = .ok (.imul, 1) := by decide +kernel
theorem dc_O_end_43 : decode cb_O_end 43 = .ok (.iload_n 3, 1) := by decide +kernel
theorem dc_O_end_44 : decode cb_O_end 44 = .ok (.iadd, 1) := by decide +kernel
theorem dc_O_end_45 : decode cb_O_end 45 = .ok (.iaload, 1) := by decide +kernel
theorem dc_O_end_46 : decode cb_O_end 46 = .ok (.iadd, 1) := by decide +kernel
theorem dc_O_end_47 : decode cb_O_end 47 = .ok (.invokevirtual 139, 3) := by decide +kernel
theorem dc_O_end_50 : decode cb_O_end 50 = .ok (.iinc 3 (-1), 3) := by decide +kernel
theorem dc_O_end_53 : decode cb_O_end 53 = .ok (.goto (-44), 3) := by decide +kernel
theorem dc_O_end_56 : decode cb_O_end 56 = .ok (.aload_n 0, 1) := by decide +kernel
theorem dc_O_end_57 : decode cb_O_end 57 = .ok (.getfield 40, 3) := by decide +kernel
theorem dc_O_end_60 : decode cb_O_end 60 = .ok (.iload_n 1, 1) := by decide +kernel
theorem dc_O_end_61 : decode cb_O_end 61 = .ok (.iconst 0, 1) := by decide +kernel
theorem dc_O_end_62 : decode cb_O_end 62 = .ok (.iastore, 1) := by decide +kernel
theorem dc_O_end_63 : decode cb_O_end 63 = .ok (.aload_n 0, 1) := by decide +kernel
theorem dc_O_end_64 : decode cb_O_end 64 = .ok (.getfield 31, 3) := by decide +kernel
theorem dc_O_end_67 : decode cb_O_end 67 = .ok (.iload_n 1, 1) := by decide +kernel
theorem dc_O_end_68 : decode cb_O_end 68 = .ok (.iconst 0, 1) := by decide +kernel
theorem dc_O_end_69 : decode cb_O_end 69 = .ok (.iastore, 1) := by decide +kernel
theorem dc_O_end_70 : decode cb_O_end 70 = .ok (.aload_n 0, 1) := by decide +kernel
theorem dc_O_end_71 : decode cb_O_end 71 = .ok (.getfield 52, 3) := by decide +kernel
theorem dc_O_end_74 : decode cb_O_end 74 = .ok (.iload_n 1, 1) := by decide +kernel
theorem dc_O_end_75 : decode cb_O_end 75 = .ok (.bipush 24, 2) := by decide +kernel
theorem dc_O_end_77 : decode cb_O_end 77 = .ok (.iastore, 1) := by decide +kernel
theorem dc_O_end_78 : decode cb_O_end 78 = .ok (.aload_n 0, 1) := by decide +kernel
theorem dc_O_end_79 : decode cb_O_end 79 = .ok (.getfield 73, 3) := by decide +kernel
theorem dc_O_end_82 : decode cb_O_end 82 = .ok (.iload_n 1, 1) := by decide +kernel
theorem dc_O_end_83 : decode cb_O_end 83 = .ok (.iconst 0, 1) := by decide +kernel
theorem dc_O_end_84 : decode cb_O_end 84 = .ok (.bastore, 1) := by decide +kernel
theorem dc_O_end_85 : decode cb_O_end 85 = .ok (.aload_n 0, 1) := by decide +kernel
theorem dc_O_end_86 : decode cb_O_end 86 = .ok (.getfield 43, 3) := by decide +kernel
theorem dc_O_end_89 : decode cb_O_end 89 = .ok (.iload_n 1, 1) := by decide +kernel
theorem dc_O_end_90 : decode cb_O_end 90 = .ok (.iconst 5, 1) := by decide +kernel
theorem dc_O_end_91 : decode cb_O_end 91 = .ok (.iastore, 1) := by decide +kernel
theorem dc_O_end_92 : decode cb_O_end 92 = .ok (.aload_n 0, 1) := by decide +kernel
theorem dc_O_end_93 : decode cb_O_end 93 = .ok (.getfield 49, 3) := by decide +kernel
theorem dc_O_end_96 : decode cb_O_end 96 = .ok (.iload_n 1, 1) := by decide +kernel
theorem dc_O_end_97 : decode cb_O_end 97 = .ok (.iload_n 2, 1) := by decide +kernel
theorem dc_O_end_98 : decode cb_O_end 98 = .ok (.iastore, 1) := by decide +kernel
theorem dc_O_end_99 : decode cb_O_end 99 = .ok (.iconst 0, 1) := by decide +kernel
theorem dc_O_end_100 : decode cb_O_end 100 = .ok (.istore_n 3, 1) := by decide +kernel
theorem dc_O_end_101 : decode cb_O_end 101 = .ok (.iload_n 3, 1) := by decide +kernel
theorem dc_O_end_102 : decode cb_O_end 102 = .ok (.iconst 3, 1) := by decide +kernel
theorem dc_O_end_103 : decode cb_O_end 103 = .ok (.if_icmp .ge 24, 3) := by decide +kernel
theorem dc_O_end_106 : decode cb_O_end 106 = .ok (.aload_n 0, 1) := by decide +kernel
theorem dc_O_end_107 : decode cb_O_end 107 = .ok (.getfield 80, 3) := by decide +kernel
theorem dc_O_end_110 : decode cb_O_end 110 = .ok (.iload_n 3, 1) := by decide +kernel
theorem dc_O_end_111 : decode cb_O_end 111 = .ok (.iaload, 1) := by decide +kernel
theorem dc_O_end_112 : decode cb_O_end 112 = .ok (.iload_n 1, 1) := by decide +kernel
theorem dc_O_end_113 : decode cb_O_end 113 = .ok (.if_icmp .ne 8, 3) := by decide +kernel
theorem dc_O_end_116 : decode cb_O_end 116 = .ok (.aload_n 0, 1) := by decide +kernel
theorem dc_O_end_117 : decode cb_O_end 117 = .ok (.iload_n 3, 1) := by decide +kernel
theorem dc_O_end_118 : decode cb_O_end 118 = .ok (.invokevirtual 143, 3) := by decide +kernel
theorem dc_O_end_121 : decode cb_O_end 121 = .ok (.iinc 3 1, 3) := by decide +kernel
theorem dc_O_end_124 : decode cb_O_end 124 = .ok (.goto (-23), 3) := by decide +kernel
theorem dc_O_end_127 : decode cb_O_end 127 = .ok (.iconst 0, 1) := by decide +kernel
theorem dc_O_end_128 : decode cb_O_end 128 = .ok (.istore_n 3, 1) := by decide +kernel
theorem dc_O_end_129 : decode cb_O_end 129 = .ok (.iload_n 3, 1) := by decide +kernel
theorem dc_O_end_130 : decode cb_O_end 130 = .ok (.aload_n 0, 1) := by decide +kernel
theorem dc_O_end_131 : decode cb_O_end 131 = .ok (.getfield 101, 3) := by decide +kernel
theorem dc_O_end_134 : decode cb_O_end 134 = .ok (.iload_n 1, 1) := by decide +kernel
theorem dc_O_end_135 : decode cb_O_end 135 = .ok (.iaload, 1) := by decide +kernel
theorem dc_O_end_136 : decode cb_O_end 136 = .ok (.if_icmp .ge 43, 3) := by decide +kernel
theorem dc_O_end_139 : decode cb_O_end 139 = .ok (.aload_n 0, 1) := by decide +kernel
theorem dc_O_end_140 : decode cb_O_end 140 = .ok (.getfield 98, 3) := by decide +kernel
theorem dc_O_end_143 : decode cb_O_end 143 = .ok (.iconst 5, 1) := by decide +kernel
theorem dc_O_end_144 : decode cb_O_end 144 = .ok (.iload_n 1, 1) := by decide +kernel
theorem dc_O_end_145 : decode cb_O_end 145 = .ok (.imul, 1) := by decide +kernel
theorem dc_O_end_146 : decode cb_O_end 146 = .ok (.iload_n 3, 1) := by decide +kernel
theorem dc_O_end_147 : decode cb_O_end 147 = .ok (.iadd, 1) := by decide +kernel
theorem dc_O_end_148 : decode cb_O_end 148 = .ok (.iaload, 1) := by decide +kernel
theorem dc_O_end_149 : decode cb_O_end 149 = .ok (.istore 4, 2) := by decide +kernel
theorem dc_O_end_151 : decode cb_O_end 151 = .ok (.aload_n 0, 1) := by decide +kernel
theorem dc_O_end_152 : decode cb_O_end 152 = .ok (.iload 4, 2) := by decide +kernel
theorem dc_O_end_154 : decode cb_O_end 154 = .ok (.aload_n 0, 1) := by decide +kernel
theorem dc_O_end_155 : decode cb_O_end 155 = .ok (.getfield 70, 3) := by decide +kernel
theorem dc_O_end_158 : decode cb_O_end 158 = .ok (.iload 4, 2) := by decide +kernel
theorem dc_O_end_160 : decode cb_O_end 160 = .ok (.iaload, 1) := by decide +kernel
theorem dc_O_end_161 : decode cb_O_end 161 = .ok (.iload_n 2, 1) := by decide +kernel
theorem dc_O_end_162 : decode cb_O_end 162 = .ok (.invokevirtual 139, 3) := by decide +kernel
theorem dc_O_end_165 : decode cb_O_end 165 = .ok (.aload_n 0, 1) := by decide +kernel
theorem dc_O_end_166 : decode cb_O_end 166 = .ok (.getfield 43, 3) := by decide +kernel
theorem dc_O_end_169 : decode cb_O_end 169 = .ok (.iload 4, 2) := by decide +kernel
theorem dc_O_end_171 : decode cb_O_end 171 = .ok (.iconst 1, 1) := by decide +kernel
theorem dc_O_end_172 : decode cb_O_end 172 = .ok (.iastore, 1) := by decide +kernel
theorem dc_O_end_173 : decode cb_O_end 173 = .ok (.iinc 3 1, 3) := by decide +kernel
theorem dc_O_end_176 : decode cb_O_end 176 = .ok (.goto (-47), 3) := by decide +kernel
theorem dc_O_end_179 : decode cb_O_end 179 = .ok (.aload_n 0, 1) := by decide +kernel
theorem dc_O_end_180 : decode cb_O_end 180 = .ok (.getfield 101, 3) := by decide +kernel
theorem dc_O_end_183 : decode cb_O_end 183 = .ok (.iload_n 1, 1) := by decide +kernel
theorem dc_O_end_184 : decode cb_O_end 184 = .ok (.iconst 0, 1) := by decide +kernel
theorem dc_O_end_185 : decode cb_O_end 185 = .ok (.iastore, 1) := by decide +kernel
theorem dc_O_end_186 : decode cb_O_end 186 = .ok (.aload_n 0, 1) := by decide +kernel
theorem dc_O_end_187 : decode cb_O_end 187 = .ok (.getfield 107, 3) := by decide +kernel
theorem dc_O_end_190 : decode cb_O_end 190 = .ok (.bipush 7, 2) := by decide +kernel
theorem dc_O_end_192 : decode cb_O_end 192 = .ok (.dup2, 1) := by decide +kernel
theorem dc_O_end_193 : decode cb_O_end 193 = .ok (.iaload, 1) := by decide +kernel
theorem dc_O_end_194 : decode cb_O_end 194 = .ok (.iconst 1, 1) := by decide +kernel
theorem dc_O_end_195 : decode cb_O_end 195 = .ok (.iadd, 1) := by decide +kernel
theorem dc_O_end_196 : decode cb_O_end 196 = .ok (.iastore, 1) := by decide +kernel
theorem dc_O_end_197 : decode cb_O_end 197 = .ok (.return_, 1) := by decide +kernel
theorem dc_O_error_0 : decode cb_O_error 0 = .ok (.aload_n 0, 1) := by decide +kernel
theorem dc_O_error_1 : decode cb_O_error 1 = .ok (.getfield 107, 3) := by decide +kernel
theorem dc_O_error_4 : decode cb_O_error 4 = .ok (.iconst 5, 1) := by decide +kernel
theorem dc_O_error_5 : decode cb_O_error 5 = .ok (.dup2, 1) := by decide +kernel
theorem dc_O_error_6 : decode cb_O_error 6 = .ok (.iaload, 1) := by decide +kernel
theorem dc_O_error_7 : decode cb_O_error 7 = .ok (.iconst 1, 1) := by decide +kernel
theorem dc_O_error_8 : decode cb_O_error 8 = .ok (.iadd, 1) := by decide +kernel
theorem dc_O_error_9 : decode cb_O_error 9 = .ok (.iastore, 1) := by decide +kernel
theorem dc_O_error_10 : decode cb_O_error 10 = .ok (.aload_n 0, 1) := by decide +kernel
theorem dc_O_error_11 : decode cb_O_error 11 = .ok (.getfield 52, 3) := by decide +kernel
theorem dc_O_error_14 : decode cb_O_error 14 = .ok (.iload_n 1, 1) := by decide +kernel
theorem dc_O_error_15 : decode cb_O_error 15 = .ok (.iaload, 1) := by decide +kernel
theorem dc_O_error_16 : decode cb_O_error 16 = .ok (.bipush 24, 2) := by decide +kernel
theorem dc_O_error_18 : decode cb_O_error 18 = .ok (.if_icmp .ne 11, 3) := by decide +kernel
theorem dc_O_error_21 : decode cb_O_error 21 = .ok (.aload_n 0, 1) := by decide +kernel
theorem dc_O_error_22 : decode cb_O_error 22 = .ok (.iload_n 1, 1) := by decide +kernel
theorem dc_O_error_23 : decode cb_O_error 23 = .ok (.iload_n 2, 1) := by decide +kernel
theorem dc_O_error_24 : decode cb_O_error 24 = .ok (.ineg, 1) := by decide +kernel
theorem dc_O_error_25 : decode cb_O_error 25 = .ok (.invokevirtual 147, 3) := by decide +kernel
theorem dc_O_error_28 : decode cb_O_error 28 = .ok (.return_, 1) := by decide +kernel
theorem dc_O_error_29 : decode cb_O_error 29 = .ok (.aload_n 0, 1) := by decide +kernel
theorem dc_O_error_30 : decode cb_O_error 30 = .ok (.getfield 46, 3) := by decide +kernel
theorem dc_O_error_33 : decode cb_O_error 33 = .ok (.iload_n 1, 1) := by decide +kernel
theorem dc_O_error_34 : decode cb_O_error 34 = .ok (.aload_n 0, 1) := by decide +kernel
theorem dc_O_error_35 : decode cb_O_error 35 = .ok (.getfield 52, 3) := by decide +kernel
theorem dc_O_error_38 : decode cb_O_error 38 = .ok (.iload_n 1, 1) := by decide +kernel
theorem dc_O_error_39 : decode cb_O_error 39 = .ok (.iaload, 1) := by decide +kernel
theorem dc_O_error_40 : decode cb_O_error 40 = .ok (.iastore, 1) := by decide +kernel
theorem dc_O_error_41 : decode cb_O_error 41 = .ok (.aload_n 0, 1) := by decide +kernel
theorem dc_O_error_42 : decode cb_O_error 42 = .ok (.getfield 52, 3) := by decide +kernel
theorem dc_O_error_45 : decode cb_O_error 45 = .ok (.iload_n 1, 1) := by decide +kernel
theorem dc_O_error_46 : decode cb_O_error 46 = .ok (.bipush 24, 2) := by decide +kernel
theorem dc_O_error_48 : decode cb_O_error 48 = .ok (.iastore, 1) := by decide +kernel
theorem dc_O_error_49 : decode cb_O_error 49 = .ok (.aload_n 0, 1) := by decide +kernel
theorem dc_O_error_50 : decode cb_O_error 50 = .ok (.iload_n 1, 1) := by decide +kernel
theorem dc_O_error_51 : decode cb_O_error 51 = .ok (.iconst 3, 1) := by decide +kernel
theorem dc_O_error_52 : decode cb_O_error 52 = .ok (.iload_n 2, 1) := by decide +kernel
theorem dc_O_error_53 : decode cb_O_error 53 = .ok (.invokevirtual 139, 3) := by decide +kernel
theorem dc_O_error_56 : decode cb_O_error 56 = .ok (.return_, 1) := by decide +kernel
theorem dc_O_isStopped_0 : decode cb_O_isStopped 0 = .ok (.aload_n 0, 1) := by decide +kernel
theorem dc_O_isStopped_1 : decode cb_O_isStopped 1 = .ok (.getfield 73, 3) := by decide +kernel
theorem dc_O_isStopped_4 : decode cb_O_isStopped 4 = .ok (.iload_n 1, 1) := by decide +kernel
theorem dc_O_isStopped_5 : decode cb_O_isStopped 5 = .ok (.baload, 1) := by decide +kernel
theorem dc_O_isStopped_6 : decode cb_O_isStopped 6 = .ok (.ifCond .ne 5, 3) := by decide +kernel
theorem dc_O_isStopped_9 : decode cb_O_isStopped 9 = .ok (.iconst 0, 1) := by decide +kernel
theorem dc_O_isStopped_10 : decode cb_O_isStopped 10 = .ok (.ireturn, 1) := by decide +kernel
theorem dc_O_isStopped_11 : decode cb_O_isStopped 11 = .ok (.aload_n 0, 1) := by decide +kernel
theorem dc_O_isStopped_12 : decode cb_O_isStopped 12 = .ok (.getfield 73, 3) := by decide +kernel
theorem dc_O_isStopped_15 : decode cb_O_isStopped 15 = .ok (.iload_n 1, 1) := by decide +kernel
theorem dc_O_isStopped_16 : decode cb_O_isStopped 16 = .ok (.iconst 0, 1) := by decide +kernel
theorem dc_O_isStopped_17 : decode cb_O_isStopped 17 = .ok (.bastore, 1) := by decide +kernel
theorem dc_O_isStopped_18 : decode cb_O_isStopped 18 = .ok (.aload_n 0, 1) := by decide +kernel
theorem dc_O_isStopped_19 : decode cb_O_isStopped 19 = .ok (.iload_n 1, 1) := by decide +kernel
theorem dc_O_isStopped_20 : decode cb_O_isStopped 20 = .ok (.bipush 7, 2) := by decide +kernel
theorem dc_O_isStopped_22 : decode cb_O_isStopped 22 = .ok (.invokevirtual 160, 3) := by decide +kernel
theorem dc_O_isStopped_25 : decode cb_O_isStopped 25 = .ok (.iconst 1, 1) := by decide +kernel
theorem dc_O_isStopped_26 : decode cb_O_isStopped 26 = .ok (.ireturn, 1) := by decide +kernel
theorem dc_O_await_0 : decode cb_O_await 0 = .ok (.aload_n 0, 1) := by decide +kernel
theorem dc_O_await_1 : decode cb_O_await 1 = .ok (.getfield 80, 3) := by decide +kernel
theorem dc_O_await_4 : decode cb_O_await 4 = .ok (.iload_n 3, 1) := by decide +kernel
theorem dc_O_await_5 : decode cb_O_await 5 = .ok (.iaload, 1) := by decide +kernel
theorem dc_O_await_6 : decode cb_O_await 6 = .ok (.iload_n 1, 1) := by decide +kernel
theorem dc_O_await_7 : decode cb_O_await 7 = .ok (.if_icmp .eq 10, 3) := by decide +kernel
theorem dc_O_await_10 : decode cb_O_await 10 = .ok (.aload_n 0, 1) := by decide +kernel
theorem dc_O_await_11 : decode cb_O_await 11 = .ok (.iload_n 1, 1) := by decide +kernel
theorem dc_O_await_12 : decode cb_O_await 12 = .ok (.iconst 3, 1) := by decide +kernel
theorem dc_O_await_13 : decode cb_O_await 13 = .ok (.invokevirtual 160, 3) := by decide +kernel
theorem dc_O_await_16 : decode cb_O_await 16 = .ok (.return_, 1) := by decide +kernel
theorem dc_O_await_17 : decode cb_O_await 17 = .ok (.aload_n 0, 1) := by decide +kernel
theorem dc_O_await_18 : decode cb_O_await 18 = .ok (.iload_n 1, 1) := by decide +kernel
theorem dc_O_await_19 : decode cb_O_await 19 = .ok (.invokevirtual 163, 3) := by decide +kernel
theorem dc_O_await_22 : decode cb_O_await 22 = .ok (.ifCond .eq 4, 3) := by decide +kernel
theorem dc_O_await_25 : decode cb_O_await 25 = .ok (.return_, 1) := by decide +kernel
theorem dc_O_await_26 : decode cb_O_await 26 = .ok (.aload_n 0, 1) := by decide +kernel
theorem dc_O_await_27 : decode cb_O_await 27 = .ok (.getfield 61, 3) := by decide +kernel
theorem dc_O_await_30 : decode cb_O_await 30 = .ok (.iload_n 1, 1) := by decide +kernel
theorem dc_O_await_31 : decode cb_O_await 31 = .ok (.iload_n 3, 1) := by decide +kernel
theorem dc_O_await_32 : decode cb_O_await 32 = .ok (.iastore, 1) := by decide +kernel
theorem dc_O_await_33 : decode cb_O_await 33 = .ok (.aload_n 0, 1) := by decide +kernel
theorem dc_O_await_34 : decode cb_O_await 34 = .ok (.getfield 64, 3) := by decide +kernel
theorem dc_O_await_37 : decode cb_O_await 37 = .ok (.iload_n 1, 1) := by decide +kernel
theorem dc_O_await_38 : decode cb_O_await 38 = .ok (.aload_n 0, 1) := by decide +kernel
theorem dc_O_await_39 : decode cb_O_await 39 = .ok (.getfield 83, 3) := by decide +kernel
theorem dc_O_await_42 : decode cb_O_await 42 = .ok (.iload_n 3, 1) := by decide +kernel
theorem dc_O_await_43 : decode cb_O_await 43 = .ok (.iaload, 1) := by decide +kernel
theorem dc_O_await_44 : decode cb_O_await 44 = .ok (.iastore, 1) := by decide +kernel
theorem dc_O_await_45 : decode cb_O_await 45 = .ok (.aload_n 0, 1) := by decide +kernel
theorem dc_O_await_46 : decode cb_O_await 46 = .ok (.getfield 67, 3) := by decide +kernel
theorem dc_O_await_49 : decode cb_O_await 49 = .ok (.iload_n 1, 1) := by decide +kernel
theorem dc_O_await_50 : decode cb_O_await 50 = .ok (.iload_n 2, 1) := by decide +kernel
theorem dc_O_await_51 : decode cb_O_await 51 = .ok (.iastore, 1) := by decide +kernel
theorem dc_O_await_52 : decode cb_O_await 52 = .ok (.aload_n 0, 1) := by decide +kernel
theorem dc_O_await_53 : decode cb_O_await 53 = .ok (.getfield 43, 3) := by decide +kernel
theorem dc_O_await_56 : decode cb_O_await 56 = .ok (.iload_n 1, 1) := by decide +kernel
theorem dc_O_await_57 : decode cb_O_await 57 = .ok (.iconst 3, 1) := by decide +kernel
theorem dc_O_await_58 : decode cb_O_await 58 = .ok (.iastore, 1) := by decide +kernel
theorem dc_O_await_59 : decode cb_O_await 59 = .ok (.aload_n 0, 1) := by decide +kernel
theorem dc_O_await_60 : decode cb_O_await 60 = .ok (.getfield 92, 3) := by decide +kernel
theorem dc_O_await_63 : decode cb_O_await 63 = .ok (.iconst 5, 1) := by decide +kernel
theorem dc_O_await_64 : decode cb_O_await 64 = .ok (.iload_n 2, 1) := by decide +kernel
theorem dc_O_await_65 : decode cb_O_await 65 = .ok (.imul, 1) := by decide +kernel
theorem dc_O_await_66 : decode cb_O_await 66 = .ok (.aload_n 0, 1) := by decide +kernel
theorem dc_O_await_67 : decode cb_O_await 67 = .ok (.getfield 95, 3) := by decide +kernel
theorem dc_O_await_70 : decode cb_O_await 70 = .ok (.iload_n 2, 1) := by decide +kernel
theorem dc_O_await_71 : decode cb_O_await 71 = .ok (.dup2, 1) := by decide +kernel
theorem dc_O_await_72 : decode cb_O_await 72 = .ok (.iaload, 1) := by decide +kernel
theorem dc_O_await_73 : decode cb_O_await 73 = .ok (.dup_x2, 1) := by decide +kernel
theorem dc_O_await_74 : decode cb_O_await 74 = .ok (.iconst 1, 1) := by decide +kernel
theorem dc_O_await_75 : decode cb_O_await 75 = .ok (.iadd, 1) := by decide +kernel
theorem dc_O_await_76 : decode cb_O_await 76 = .ok (.iastore, 1) := by decide +kernel
theorem dc_O_await_77 : decode cb_O_await 77 = .ok (.iadd, 1) := by decide +kernel
theorem dc_O_await_78 : decode cb_O_await 78 = .ok (.iload_n 1, 1) := by decide +kernel
theorem dc_O_await_79 : decode cb_O_await 79 = .ok (.iastore, 1) := by decide +kernel
theorem dc_O_await_80 : decode cb_O_await 80 = .ok (.aload_n 0, 1) := by decide +kernel
theorem dc_O_await_81 : decode cb_O_await 81 = .ok (.iload_n 3, 1) := by decide +kernel
theorem dc_O_await_82 : decode cb_O_await 82 = .ok (.invokevirtual 143, 3) := by decide +kernel
theorem dc_O_await_85 : decode cb_O_await 85 = .ok (.return_, 1) := by decide +kernel
theorem dc_O_join_0 : decode cb_O_join 0 = .ok (.iload_n 2, 1) := by decide +kernel
theorem dc_O_join_1 : decode cb_O_join 1 = .ok (.iload_n 1, 1) := by decide +kernel
theorem dc_O_join_2 : decode cb_O_join 2 = .ok (.if_icmp .eq 12, 3) := by decide +kernel
theorem dc_O_join_5 : decode cb_O_join 5 = .ok (.aload_n 0, 1) := by decide +kernel
theorem dc_O_join_6 : decode cb_O_join 6 = .ok (.getfield 43, 3) := by decide +kernel
theorem dc_O_join_9 : decode cb_O_join 9 = .ok (.iload_n 2, 1) := by decide +kernel
theorem dc_O_join_10 : decode cb_O_join 10 = .ok (.iaload, 1) := by decide +kernel
theorem dc_O_join_11 : decode cb_O_join 11 = .ok (.ifCond .ne 12, 3) := by decide +kernel
theorem dc_O_join_14 : decode cb_O_join 14 = .ok (.aload_n 0, 1) := by decide +kernel
theorem dc_O_join_15 : decode cb_O_join 15 = .ok (.iload_n 1, 1) := by decide +kernel
theorem dc_O_join_16 : decode cb_O_join 16 = .ok (.iconst 5, 1) := by decide +kernel
theorem dc_O_join_17 : decode cb_O_join 17 = .ok (.invokevirtual 160, 3) := by decide +kernel
theorem dc_O_join_20 : decode cb_O_join 20 = .ok (.goto 78, 3) := by decide +kernel
theorem dc_O_join_23 : decode cb_O_join 23 = .ok (.aload_n 0, 1) := by decide +kernel
theorem dc_O_join_24 : decode cb_O_join 24 = .ok (.getfield 43, 3) := by decide +kernel
theorem dc_O_join_27 : decode cb_O_join 27 = .ok (.iload_n 2, 1) := by decide +kernel
theorem dc_O_join_28 : decode cb_O_join 28 = .ok (.iaload, 1) := by decide +kernel
theorem dc_O_join_29 : decode cb_O_join 29 = .ok (.iconst 5, 1) := by decide +kernel
theorem dc_O_join_30 : decode cb_O_join 30 = .ok (.if_icmp .ne 18, 3) := by decide +kernel
theorem dc_O_join_33 : decode cb_O_join 33 = .ok (.aload_n 0, 1) := by decide +kernel
theorem dc_O_join_34 : decode cb_O_join 34 = .ok (.iload_n 1, 1) := by decide +kernel
theorem dc_O_join_35 : decode cb_O_join 35 = .ok (.iload_n 3, 1) := by decide +kernel
theorem dc_O_join_36 : decode cb_O_join 36 = .ok (.aload_n 0, 1) := by decide +kernel
theorem dc_O_join_37 : decode cb_O_join 37 = .ok (.getfield 49, 3) := by decide +kernel
theorem dc_O_join_40 : decode cb_O_join 40 = .ok (.iload_n 2, 1) := by decide +kernel
theorem dc_O_join_41 : decode cb_O_join 41 = .ok (.iaload, 1) := by decide +kernel
theorem dc_O_join_42 : decode cb_O_join 42 = .ok (.invokevirtual 139, 3) := by decide +kernel
theorem dc_O_join_45 : decode cb_O_join 45 = .ok (.goto 53, 3) := by decide +kernel
theorem dc_O_join_48 : decode cb_O_join 48 = .ok (.aload_n 0, 1) := by decide +kernel
theorem dc_O_join_49 : decode cb_O_join 49 = .ok (.iload_n 1, 1) := by decide +kernel
theorem dc_O_join_50 : decode cb_O_join 50 = .ok (.invokevirtual 163, 3) := by decide +kernel
theorem dc_O_join_53 : decode cb_O_join 53 = .ok (.ifCond .ne 45, 3) := by decide +kernel
theorem dc_O_join_56 : decode cb_O_join 56 = .ok (.aload_n 0, 1) := by decide +kernel
theorem dc_O_join_57 : decode cb_O_join 57 = .ok (.getfield 67, 3) := by decide +kernel
theorem dc_O_join_60 : decode cb_O_join 60 = .ok (.iload_n 1, 1) := by decide +kernel
theorem dc_O_join_61 : decode cb_O_join 61 = .ok (.iload_n 2, 1) := by decide +kernel
theorem dc_O_join_62 : decode cb_O_join 62 = .ok (.iastore, 1) := by decide +kernel
theorem dc_O_join_63 : decode cb_O_join 63 = .ok (.aload_n 0, 1) := by decide +kernel
theorem dc_O_join_64 : decode cb_O_join 64 = .ok (.getfield 70, 3) := by decide +kernel
theorem dc_O_join_67 : decode cb_O_join 67 = .ok (.iload_n 1, 1) := by decide +kernel
theorem dc_O_join_68 : decode cb_O_join 68 = .ok (.iload_n 3, 1) := by decide +kernel
theorem dc_O_join_69 : decode cb_O_join 69 = .ok (.iastore, 1) := by decide +kernel
theorem dc_O_join_70 : decode cb_O_join 70 = .ok (.aload_n 0, 1) := by decide +kernel
theorem dc_O_join_71 : decode cb_O_join 71 = .ok (.getfield 43, 3) := by decide +kernel
theorem dc_O_join_74 : decode cb_O_join 74 = .ok (.iload_n 1, 1) := by decide +kernel
theorem dc_O_join_75 : decode cb_O_join 75 = .ok (.iconst 4, 1) := by decide +kernel
theorem dc_O_join_76 : decode cb_O_join 76 = .ok (.iastore, 1) := by decide +kernel
theorem dc_O_join_77 : decode cb_O_join 77 = .ok (.aload_n 0, 1) := by decide +kernel
theorem dc_O_join_78 : decode cb_O_join 78 = .ok (.getfield 98, 3) := by decide +kernel
theorem dc_O_join_81 : decode cb_O_join 81 = .ok (.iconst 5, 1) := by decide +kernel
theorem dc_O_join_82 : decode cb_O_join 82 = .ok (.iload_n 2, 1) := by decide +kernel
theorem dc_O_join_83 : decode cb_O_join 83 = .ok (.imul, 1) := by decide +kernel
theorem dc_O_join_84 : decode cb_O_join 84 = .ok (.aload_n 0, 1) := by decide +kernel
theorem dc_O_join_85 : decode cb_O_join 85 = .ok (.getfield 101, 3) := by decide +kernel
theorem dc_O_join_88 : decode cb_O_join 88 = .ok (.iload_n 2, 1) := by decide +kernel
theorem dc_O_join_89 : decode cb_O_join 89 = .ok (.dup2, 1) := by decide +kernel
theorem dc_O_join_90 : decode cb_O_join 90 = .ok (.iaload, 1) := by decide +kernel
theorem dc_O_join_91 : decode cb_O_join 91 = .ok (.dup_x2, 1) := by decide +kernel
theorem dc_O_join_92 : decode cb_O_join 92 = .ok (.iconst 1, 1) := by decide +kernel
theorem dc_O_join_93 : decode cb_O_join 93 = .ok (.iadd, 1) := by decide +kernel
theorem dc_O_join_94 : decode cb_O_join 94 = .ok (.iastore, 1) := by decide +kernel
theorem dc_O_join_95 : decode cb_O_join 95 = .ok (.iadd, 1) := by decide +kernel
theorem dc_O_join_96 : decode cb_O_join 96 = .ok (.iload_n 1, 1) := by decide +kernel
theorem dc_O_join_97 : decode cb_O_join 97 = .ok (.iastore, 1) := by decide +kernel
theorem dc_O_join_98 : decode cb_O_join 98 = .ok (.return_, 1) := by decide +kernel
theorem dc_O_bind_0 : decode cb_O_bind 0 = .ok (.aload_n 0, 1) := by decide +kernel
theorem dc_O_bind_1 : decode cb_O_bind 1 = .ok (.getfield 31, 3) := by decide +kernel
theorem dc_O_bind_4 : decode cb_O_bind 4 = .ok (.iload_n 1, 1) := by decide +kernel
theorem dc_O_bind_5 : decode cb_O_bind 5 = .ok (.iaload, 1) := by decide +kernel
theorem dc_O_bind_6 : decode cb_O_bind 6 = .ok (.bipush 12, 2) := by decide +kernel
theorem dc_O_bind_8 : decode cb_O_bind 8 = .ok (.if_icmp .ne 10, 3) := by decide +kernel
theorem dc_O_bind_11 : decode cb_O_bind 11 = .ok (.aload_n 0, 1) := by decide +kernel
theorem dc_O_bind_12 : decode cb_O_bind 12 = .ok (.iload_n 1, 1) := by decide +kernel
theorem dc_O_bind_13 : decode cb_O_bind 13 = .ok (.iconst 1, 1) := by decide +kernel
theorem dc_O_bind_14 : decode cb_O_bind 14 = .ok (.invokevirtual 160, 3) := by decide +kernel
theorem dc_O_bind_17 : decode cb_O_bind 17 = .ok (.return_, 1) := by decide +kernel
theorem dc_O_bind_18 : decode cb_O_bind 18 = .ok (.aload_n 0, 1) := by decide +kernel
theorem dc_O_bind_19 : decode cb_O_bind 19 = .ok (.getfield 25, 3) := by decide +kernel
theorem dc_O_bind_22 : decode cb_O_bind 22 = .ok (.bipush 12, 2) := by decide +kernel
theorem dc_O_bind_24 : decode cb_O_bind 24 = .ok (.iload_n 1, 1) := by decide +kernel
theorem dc_O_bind_25 : decode cb_O_bind 25 = .ok (.imul, 1) := by decide +kernel
theorem dc_O_bind_26 : decode cb_O_bind 26 = .ok (.aload_n 0, 1) := by decide +kernel
theorem dc_O_bind_27 : decode cb_O_bind 27 = .ok (.getfield 31, 3) := by decide +kernel
theorem dc_O_bind_30 : decode cb_O_bind 30 = .ok (.iload_n 1, 1) := by decide +kernel
theorem dc_O_bind_31 : decode cb_O_bind 31 = .ok (.iaload, 1) := by decide +kernel
theorem dc_O_bind_32 : decode cb_O_bind 32 = .ok (.iadd, 1) := by decide +kernel
theorem dc_O_bind_33 : decode cb_O_bind 33 = .ok (.iload_n 2, 1) := by decide +kernel
theorem dc_O_bind_34 : decode cb_O_bind 34 = .ok (.iastore, 1) := by decide +kernel
theorem dc_O_bind_35 : decode cb_O_bind 35 = .ok (.aload_n 0, 1) := by decide +kernel
theorem dc_O_bind_36 : decode cb_O_bind 36 = .ok (.getfield 28, 3) := by decide +kernel
theorem dc_O_bind_39 : decode cb_O_bind 39 = .ok (.bipush 12, 2) := by decide +kernel
theorem dc_O_bind_41 : decode cb_O_bind 41 = .ok (.iload_n 1, 1) := by decide +kernel
theorem dc_O_bind_42 : decode cb_O_bind 42 = .ok (.imul, 1) := by decide +kernel
theorem dc_O_bind_43 : decode cb_O_bind 43 = .ok (.aload_n 0, 1) := by decide +kernel
theorem dc_O_bind_44 : decode cb_O_bind 44 = .ok (.getfield 31, 3) := by decide +kernel
theorem dc_O_bind_47 : decode cb_O_bind 47 = .ok (.iload_n 1, 1) := by decide +kernel
theorem dc_O_bind_48 : decode cb_O_bind 48 = .ok (.dup2, 1) := by decide +kernel
theorem dc_O_bind_49 : decode cb_O_bind 49 = .ok (.iaload, 1) := by decide +kernel
theorem dc_O_bind_50 : decode cb_O_bind 50 = .ok (.dup_x2, 1) := by decide +kernel
theorem dc_O_bind_51 : decode cb_O_bind 51 = .ok (.iconst 1, 1) := by decide +kernel
theorem dc_O_bind_52 : decode cb_O_bind 52 = .ok (.iadd, 1) := by decide +kernel
theorem dc_O_bind_53 : decode cb_O_bind 53 = .ok (.iastore, 1) := by decide +kernel
theorem dc_O_bind_54 : decode cb_O_bind 54 = .ok (.iadd, 1) := by decide +kernel
theorem dc_O_bind_55 : decode cb_O_bind 55 = .ok (.iload_n 3, 1) := by decide +kernel
theorem dc_O_bind_56 : decode cb_O_bind 56 = .ok (.iastore, 1) := by decide +kernel
theorem dc_O_bind_57 : decode cb_O_bind 57 = .ok (.return_, 1) := by decide +kernel
theorem dc_O_unbind_0 : decode cb_O_unbind 0 = .ok (.aload_n 0, 1) := by decide +kernel
theorem dc_O_unbind_1 : decode cb_O_unbind 1 = .ok (.iload_n 1, 1) := by decide +kernel
theorem dc_O_unbind_2 : decode cb_O_unbind 2 = .ok (.iload_n 2, 1) := by decide +kernel
theorem dc_O_unbind_3 : decode cb_O_unbind 3 = .ok (.invokevirtual 132, 3) := by decide +kernel
theorem dc_O_unbind_6 : decode cb_O_unbind 6 = .ok (.istore_n 3, 1) := by decide +kernel
theorem dc_O_unbind_7 : decode cb_O_unbind 7 = .ok (.iload_n 3, 1) := by decide +kernel
theorem dc_O_unbind_8 : decode cb_O_unbind 8 = .ok (.ifCond .ge 10, 3) := by decide +kernel
theorem dc_O_unbind_11 : decode cb_O_unbind 11 = .ok (.aload_n 0, 1) := by decide +kernel
theorem dc_O_unbind_12 : decode cb_O_unbind 12 = .ok (.iload_n 1, 1) := by decide +kernel
theorem dc_O_unbind_13 : decode cb_O_unbind 13 = .ok (.iconst 2, 1) := by decide +kernel
theorem dc_O_unbind_14 : decode cb_O_unbind 14 = .ok (.invokevirtual 160, 3) := by decide +kernel
theorem dc_O_unbind_17 : decode cb_O_unbind 17 = .ok (.return_, 1) := by decide +kernel
theorem dc_O_unbind_18 : decode cb_O_unbind 18 = .ok (.aload_n 0, 1) := by decide +kernel
theorem dc_O_unbind_19 : decode cb_O_unbind 19 = .ok (.getfield 31, 3) := by decide +kernel
theorem dc_O_unbind_22 : decode cb_O_unbind 22 = .ok (.iload_n 1, 1) := by decide +kernel
theorem dc_O_unbind_23 : decode cb_O_unbind 23 = .ok (.dup2, 1) := by decide +kernel
theorem dc_O_unbind_24 : decode cb_O_unbind 24 = .ok (.iaload, 1) := by decide +kernel
theorem dc_O_unbind_25 : decode cb_O_unbind 25 = .ok (.iconst 1, 1) := by decide +kernel
theorem dc_O_unbind_26 : decode cb_O_unbind 26 = .ok (.isub, 1) := by decide +kernel
theorem dc_O_unbind_27 : decode cb_O_unbind 27 = .ok (.iastore, 1) := by decide +kernel
theorem dc_O_unbind_28 : decode cb_O_unbind 28 = .ok (.iload_n 3, 1) := by decide +kernel
theorem dc_O_unbind_29 : decode cb_O_unbind 29 = .ok (.bipush 12, 2) := by decide +kernel
theorem dc_O_unbind_31 : decode cb_O_unbind 31 = .ok (.iload_n 1, 1) := by decide +kernel
theorem dc_O_unbind_32 : decode cb_O_unbind 32 = .ok (.imul, 1) := by decide +kernel
theorem dc_O_unbind_33 : decode cb_O_unbind 33 = .ok (.aload_n 0, 1) := by decide +kernel
theorem dc_O_unbind_34 : decode cb_O_unbind 34 = .ok (.getfield 31, 3) := by decide +kernel
theorem dc_O_unbind_37 : decode cb_O_unbind 37 = .ok (.iload_n 1, 1) := by decide +kernel
theorem dc_O_unbind_38 : decode cb_O_unbind 38 = .ok (.iaload, 1) := by decide +kernel
theorem dc_O_unbind_39 : decode cb_O_unbind 39 = .ok (.iadd, 1) := by decide +kernel
theorem dc_O_unbind_40 : decode cb_O_unbind 40 = .ok (.if_icmp .ge 37, 3) := by decide +kernel
theorem dc_O_unbind_43 : decode cb_O_unbind 43 = .ok (.aload_n 0, 1) := by decide +kernel
theorem dc_O_unbind_44 : decode cb_O_unbind 44 = .ok (.getfield 25, 3) := by decide +kernel
theorem dc_O_unbind_47 : decode cb_O_unbind 47 = .ok (.iload_n 3, 1) := by decide +kernel
theorem dc_O_unbind_48 : decode cb_O_unbind 48 = .ok (.aload_n 0, 1) := by decide +kernel
theorem dc_O_unbind_49 : decode cb_O_unbind 49 = .ok (.getfield 25, 3) := by decide +kernel
theorem dc_O_unbind_52 : decode cb_O_unbind 52 = .ok (.iload_n 3, 1) := by decide +kernel
theorem dc_O_unbind_53 : decode cb_O_unbind 53 = .ok (.iconst 1, 1) := by decide +kernel
theorem dc_O_unbind_54 : decode cb_O_unbind 54 = .ok (.iadd, 1) := by decide +kernel
theorem dc_O_unbind_55 : decode cb_O_unbind 55 = .ok (.iaload, 1) := by decide +kernel
theorem dc_O_unbind_56 : decode cb_O_unbind 56 = .ok (.iastore, 1) := by decide +kernel
theorem dc_O_unbind_57 : decode cb_O_unbind 57 = .ok (.aload_n 0, 1) := by decide +kernel
theorem dc_O_unbind_58 : decode cb_O_unbind 58 = .ok (.getfield 28, 3) := by decide +kernel
theorem dc_O_unbind_61 : decode cb_O_unbind 61 = .ok (.iload_n 3, 1) := by decide +kernel
theorem dc_O_unbind_62 : decode cb_O_unbind 62 = .ok (.aload_n 0, 1) := by decide +kernel
theorem dc_O_unbind_63 : decode cb_O_unbind 63 = .ok (.getfield 28, 3) := by decide +kernel
theorem dc_O_unbind_66 : decode cb_O_unbind 66 = .ok (.iload_n 3, 1) := by decide +kernel
theorem dc_O_unbind_67 : decode cb_O_unbind 67 = .ok (.iconst 1, 1) := by decide +kernel
theorem dc_O_unbind_68 : decode cb_O_unbind 68 = .ok (.iadd, 1) := by decide +kernel
theorem dc_O_unbind_69 : decode cb_O_unbind 69 = .ok (.iaload, 1) := by decide +kernel
theorem dc_O_unbind_70 : decode cb_O_unbind 70 = .ok (.iastore, 1) := by decide +kernel
theorem dc_O_unbind_71 : decode cb_O_unbind 71 = .ok (.iinc 3 1, 3) := by decide +kernel
theorem dc_O_unbind_74 : decode cb_O_unbind 74 = .ok (.goto (-46), 3) := by decide +kernel
theorem dc_O_unbind_77 : decode cb_O_unbind 77 = .ok (.return_, 1) := by decide +kernel
theorem dc_O_locks_0 : decode cb_O_locks 0 = .ok (.iload_n 2, 1) := by decide +kernel
theorem dc_O_locks_1 : decode cb_O_locks 1 = .ok (.iconst 5, 1) := by decide +kernel
theorem dc_O_locks_2 : decode cb_O_locks 2 = .ok (.if_icmp .ne 13, 3) := by decide +kernel
theorem dc_O_locks_5 : decode cb_O_locks 5 = .ok (.aload_n 0, 1) := by decide +kernel
theorem dc_O_locks_6 : decode cb_O_locks 6 = .ok (.iload_n 1, 1) := by decide +kernel
theorem dc_O_locks_7 : decode cb_O_locks 7 = .ok (.iload_n 3, 1) := by decide +kernel
theorem dc_O_locks_8 : decode cb_O_locks 8 = .ok (.iconst 1, 1) := by decide +kernel
theorem dc_O_locks_9 : decode cb_O_locks 9 = .ok (.invokevirtual 151, 3) := by decide +kernel
theorem dc_O_locks_12 : decode cb_O_locks 12 = .ok (.goto 111, 3) := by decide +kernel
theorem dc_O_locks_15 : decode cb_O_locks 15 = .ok (.iload_n 2, 1) := by decide +kernel
theorem dc_O_locks_16 : decode cb_O_locks 16 = .ok (.bipush 7, 2) := by decide +kernel
theorem dc_O_locks_18 : decode cb_O_locks 18 = .ok (.if_icmp .ne 62, 3) := by decide +kernel
theorem dc_O_locks_21 : decode cb_O_locks 21 = .ok (.aload_n 0, 1) := by decide +kernel
theorem dc_O_locks_22 : decode cb_O_locks 22 = .ok (.getfield 80, 3) := by decide +kernel
theorem dc_O_locks_25 : decode cb_O_locks 25 = .ok (.iload_n 3, 1) := by decide +kernel
theorem dc_O_locks_26 : decode cb_O_locks 26 = .ok (.iaload, 1) := by decide +kernel
theorem dc_O_locks_27 : decode cb_O_locks 27 = .ok (.iconst (-1), 1) := by decide +kernel
theorem dc_O_locks_28 : decode cb_O_locks 28 = .ok (.if_icmp .eq 13, 3) := by decide +kernel
theorem dc_O_locks_31 : decode cb_O_locks 31 = .ok (.aload_n 0, 1) := by decide +kernel
theorem dc_O_locks_32 : decode cb_O_locks 32 = .ok (.getfield 80, 3) := by decide +kernel
theorem dc_O_locks_35 : decode cb_O_locks 35 = .ok (.iload_n 3, 1) := by decide +kernel
theorem dc_O_locks_36 : decode cb_O_locks 36 = .ok (.iaload, 1) := by decide +kernel
theorem dc_O_locks_37 : decode cb_O_locks 37 = .ok (.iload_n 1, 1) := by decide +kernel
theorem dc_O_locks_38 : decode cb_O_locks 38 = .ok (.if_icmp .ne 7, 3) := by decide +kernel
theorem dc_O_locks_41 : decode cb_O_locks 41 = .ok (.iconst 1, 1) := by decide +kernel
theorem dc_O_locks_42 : decode cb_O_locks 42 = .ok (.goto 4, 3) := by decide +kernel
theorem dc_O_locks_45 : decode cb_O_locks 45 = .ok (.iconst 0, 1) := by decide +kernel
theorem dc_O_locks_46 : decode cb_O_locks 46 = .ok (.istore 5, 2) := by decide +kernel
theorem dc_O_locks_48 : decode cb_O_locks 48 = .ok (.iload 5, 2) := by decide +kernel
theorem dc_O_locks_50 : decode cb_O_locks 50 = .ok (.ifCond .eq 10, 3) := by decide +kernel
theorem dc_O_locks_53 : decode cb_O_locks 53 = .ok (.aload_n 0, 1) := by decide +kernel
theorem dc_O_locks_54 : decode cb_O_locks 54 = .ok (.iload_n 1, 1) := by decide +kernel
theorem dc_O_locks_55 : decode cb_O_locks 55 = .ok (.iload_n 3, 1) := by decide +kernel
theorem dc_O_locks_56 : decode cb_O_locks 56 = .ok (.iconst 1, 1) := by decide +kernel
theorem dc_O_locks_57 : decode cb_O_locks 57 = .ok (.invokevirtual 151, 3) := by decide +kernel
theorem dc_O_locks_60 : decode cb_O_locks 60 = .ok (.aload_n 0, 1) := by decide +kernel
theorem dc_O_locks_61 : decode cb_O_locks 61 = .ok (.iload_n 1, 1) := by decide +kernel
theorem dc_O_locks_62 : decode cb_O_locks 62 = .ok (.iload 4, 2) := by decide +kernel
theorem dc_O_locks_64 : decode cb_O_locks 64 = .ok (.iload 5, 2) := by decide +kernel
theorem dc_O_locks_66 : decode cb_O_locks 66 = .ok (.ifCond .eq 7, 3) := by decide +kernel
theorem dc_O_locks_69 : decode cb_O_locks 69 = .ok (.iconst 1, 1) := by decide +kernel
theorem dc_O_locks_70 : decode cb_O_locks 70 = .ok (.goto 4, 3) := by decide +kernel
theorem dc_O_locks_73 : decode cb_O_locks 73 = .ok (.iconst 0, 1) := by decide +kernel
theorem dc_O_locks_74 : decode cb_O_locks 74 = .ok (.invokevirtual 139, 3) := by decide +kernel
theorem dc_O_locks_77 : decode cb_O_locks 77 = .ok (.goto 46, 3) := by decide +kernel
theorem dc_O_locks_80 : decode cb_O_locks 80 = .ok (.aload_n 0, 1) := by decide +kernel
theorem dc_O_locks_81 : decode cb_O_locks 81 = .ok (.getfield 80, 3) := by decide +kernel
theorem dc_O_locks_84 : decode cb_O_locks 84 = .ok (.iload_n 3, 1) := by decide +kernel
theorem dc_O_locks_85 : decode cb_O_locks 85 = .ok (.iaload, 1) := by decide +kernel
theorem dc_O_locks_86 : decode cb_O_locks 86 = .ok (.iload_n 1, 1) := by decide +kernel
theorem dc_O_locks_87 : decode cb_O_locks 87 = .ok (.if_icmp .eq 12, 3) := by decide +kernel
theorem dc_O_locks_90 : decode cb_O_locks 90 = .ok (.aload_n 0, 1) := by decide +kernel
theorem dc_O_locks_91 : decode cb_O_locks 91 = .ok (.iload_n 1, 1) := by decide +kernel
theorem dc_O_locks_92 : decode cb_O_locks 92 = .ok (.iconst 3, 1) := by decide +kernel
theorem dc_O_locks_93 : decode cb_O_locks 93 = .ok (.invokevirtual 160, 3) := by decide +kernel
theorem dc_O_locks_96 : decode cb_O_locks 96 = .ok (.goto 27, 3) := by decide +kernel
theorem dc_O_locks_99 : decode cb_O_locks 99 = .ok (.aload_n 0, 1) := by decide +kernel
theorem dc_O_locks_100 : decode cb_O_locks 100 = .ok (.getfield 83, 3) := by decide +kernel
theorem dc_O_locks_103 : decode cb_O_locks 103 = .ok (.iload_n 3, 1) := by decide +kernel
theorem dc_O_locks_104 : decode cb_O_locks 104 = .ok (.dup2, 1) := by decide +kernel
theorem dc_O_locks_105 : decode cb_O_locks 105 = .ok (.iaload, 1) := by decide +kernel
theorem dc_O_locks_106 : decode cb_O_locks 106 = .ok (.iconst 1, 1) := by decide +kernel
theorem dc_O_locks_107 : decode cb_O_locks 107 = .ok (.isub, 1) := by decide +kernel
theorem dc_O_locks_108 : decode cb_O_locks 108 = .ok (.iastore, 1) := by decide +kernel
theorem dc_O_locks_109 : decode cb_O_locks 109 = .ok (.aload_n 0, 1) := by decide +kernel
theorem dc_O_locks_110 : decode cb_O_locks 110 = .ok (.getfield 83, 3) := by decide +kernel
theorem dc_O_locks_113 : decode cb_O_locks 113 = .ok (.iload_n 3, 1) := by decide +kernel
theorem dc_O_locks_114 : decode cb_O_locks 114 = .ok (.iaload, 1) := by decide +kernel
theorem dc_O_locks_115 : decode cb_O_locks 115 = .ok (.ifCond .ne 8, 3) := by decide +kernel
theorem dc_O_locks_118 : decode cb_O_locks 118 = .ok (.aload_n 0, 1) := by decide +kernel
theorem dc_O_locks_119 : decode cb_O_locks 119 = .ok (.iload_n 3, 1) := by decide +kernel
theorem dc_O_locks_120 : decode cb_O_locks 120 = .ok (.invokevirtual 143, 3) := by decide +kernel
theorem dc_O_locks_123 : decode cb_O_locks 123 = .ok (.return_, 1) := by decide +kernel
theorem dc_O_act_0 : decode cb_O_act 0 = .ok (.iload_n 2, 1) := by decide +kernel
theorem dc_O_act_1 : decode cb_O_act 1 = .ok (.tableswitch 436 0 19 #[95, 106, 124, 140, 151, 160, 160, 160, 172, 183, 183, 242, 259, 270, 280, 290, 351, 361, 381, 422], 95) := by decide +kernel
theorem dc_O_act_96 : decode cb_O_act 96 = .ok (.aload_n 0, 1) := by decide +kernel
theorem dc_O_act_97 : decode cb_O_act 97 = .ok (.iload_n 1, 1) := by decide +kernel
theorem dc_O_act_98 : decode cb_O_act 98 = .ok (.iload_n 3, 1) := by decide +kernel
theorem dc_O_act_99 : decode cb_O_act 99 = .ok (.iload 4, 2) := by decide +kernel
theorem dc_O_act_101 : decode cb_O_act 101 = .ok (.invokevirtual 139, 3) := by decide +kernel
theorem dc_O_act_104 : decode cb_O_act 104 = .ok (.goto 338, 3) := by decide +kernel
theorem dc_O_act_107 : decode cb_O_act 107 = .ok (.aload_n 0, 1) := by decide +kernel
theorem dc_O_act_108 : decode cb_O_act 108 = .ok (.iload_n 1, 1) := by decide +kernel
theorem dc_O_act_109 : decode cb_O_act 109 = .ok (.iload_n 3, 1) := by decide +kernel
theorem dc_O_act_110 : decode cb_O_act 110 = .ok (.aload_n 0, 1) := by decide +kernel
theorem dc_O_act_111 : decode cb_O_act 111 = .ok (.iload_n 1, 1) := by decide +kernel
theorem dc_O_act_112 : decode cb_O_act 112 = .ok (.iload_n 3, 1) := by decide +kernel
theorem dc_O_act_113 : decode cb_O_act 113 = .ok (.invokevirtual 136, 3) := by decide +kernel
theorem dc_O_act_116 : decode cb_O_act 116 = .ok (.iload 4, 2) := by decide +kernel
theorem dc_O_act_118 : decode cb_O_act 118 = .ok (.iadd, 1) := by decide +kernel
theorem dc_O_act_119 : decode cb_O_act 119 = .ok (.invokevirtual 139, 3) := by decide +kernel
theorem dc_O_act_122 : decode cb_O_act 122 = .ok (.goto 320, 3) := by decide +kernel
theorem dc_O_act_125 : decode cb_O_act 125 = .ok (.aload_n 0, 1) := by decide +kernel
theorem dc_O_act_126 : decode cb_O_act 126 = .ok (.iload_n 1, 1) := by decide +kernel
theorem dc_O_act_127 : decode cb_O_act 127 = .ok (.iload_n 3, 1) := by decide +kernel
theorem dc_O_act_128 : decode cb_O_act 128 = .ok (.aload_n 0, 1) := by decide +kernel
theorem dc_O_act_129 : decode cb_O_act 129 = .ok (.iload_n 1, 1) := by decide +kernel
theorem dc_O_act_130 : decode cb_O_act 130 = .ok (.iload 4, 2) := by decide +kernel
theorem dc_O_act_132 : decode cb_O_act 132 = .ok (.invokevirtual 136, 3) := by decide +kernel
theorem dc_O_act_135 : decode cb_O_act 135 = .ok (.invokevirtual 139, 3) := by decide +kernel
theorem dc_O_act_138 : decode cb_O_act 138 = .ok (.goto 304, 3) := by decide +kernel
theorem dc_O_act_141 : decode cb_O_act 141 = .ok (.aload_n 0, 1) := by decide +kernel
theorem dc_O_act_142 : decode cb_O_act 142 = .ok (.iload_n 1, 1) := by decide +kernel
theorem dc_O_act_143 : decode cb_O_act 143 = .ok (.iload_n 3, 1) := by decide +kernel
theorem dc_O_act_144 : decode cb_O_act 144 = .ok (.iload 4, 2) := by decide +kernel
theorem dc_O_act_146 : decode cb_O_act 146 = .ok (.invokevirtual 166, 3) := by decide +kernel
theorem dc_O_act_149 : decode cb_O_act 149 = .ok (.goto 293, 3) := by decide +kernel
theorem dc_O_act_152 : decode cb_O_act 152 = .ok (.aload_n 0, 1) := by decide +kernel
theorem dc_O_act_153 : decode cb_O_act 153 = .ok (.iload_n 1, 1) := by decide +kernel
theorem dc_O_act_154 : decode cb_O_act 154 = .ok (.iload_n 3, 1) := by decide +kernel
theorem dc_O_act_155 : decode cb_O_act 155 = .ok (.invokevirtual 169, 3) := by decide +kernel
theorem dc_O_act_158 : decode cb_O_act 158 = .ok (.goto 284, 3) := by decide +kernel
theorem dc_O_act_161 : decode cb_O_act 161 = .ok (.aload_n 0, 1) := by decide +kernel
theorem dc_O_act_162 : decode cb_O_act 162 = .ok (.iload_n 1, 1) := by decide +kernel
theorem dc_O_act_163 : decode cb_O_act 163 = .ok (.iload_n 2, 1) := by decide +kernel
theorem dc_O_act_164 : decode cb_O_act 164 = .ok (.iload_n 3, 1) := by decide +kernel
theorem dc_O_act_165 : decode cb_O_act 165 = .ok (.iload 4, 2) := by decide +kernel
theorem dc_O_act_167 : decode cb_O_act 167 = .ok (.invokevirtual 172, 3) := by decide +kernel
theorem dc_O_act_170 : decode cb_O_act 170 = .ok (.goto 272, 3) := by decide +kernel
theorem dc_O_act_173 : decode cb_O_act 173 = .ok (.aload_n 0, 1) := by decide +kernel
theorem dc_O_act_174 : decode cb_O_act 174 = .ok (.iload_n 1, 1) := by decide +kernel
theorem dc_O_act_175 : decode cb_O_act 175 = .ok (.iload_n 3, 1) := by decide +kernel
theorem dc_O_act_176 : decode cb_O_act 176 = .ok (.iload 4, 2) := by decide +kernel
theorem dc_O_act_178 : decode cb_O_act 178 = .ok (.invokevirtual 176, 3) := by decide +kernel
theorem dc_O_act_181 : decode cb_O_act 181 = .ok (.goto 261, 3) := by decide +kernel
theorem dc_O_act_184 : decode cb_O_act 184 = .ok (.iload_n 2, 1) := by decide +kernel
theorem dc_O_act_185 : decode cb_O_act 185 = .ok (.bipush 9, 2) := by decide +kernel
theorem dc_O_act_187 : decode cb_O_act 187 = .ok (.if_icmp .ne 17, 3) := by decide +kernel
theorem dc_O_act_190 : decode cb_O_act 190 = .ok (.aload_n 0, 1) := by decide +kernel
theorem dc_O_act_191 : decode cb_O_act 191 = .ok (.getfield 95, 3) := by decide +kernel
theorem dc_O_act_194 : decode cb_O_act 194 = .ok (.iload_n 3, 1) := by decide +kernel
theorem dc_O_act_195 : decode cb_O_act 195 = .ok (.iaload, 1) := by decide +kernel
theorem dc_O_act_196 : decode cb_O_act 196 = .ok (.iconst 1, 1) := by decide +kernel
theorem dc_O_act_197 : decode cb_O_act 197 = .ok (.if_icmp .le 7, 3) := by decide +kernel
theorem dc_O_act_200 : decode cb_O_act 200 = .ok (.iconst 1, 1) := by decide +kernel
theorem dc_O_act_201 : decode cb_O_act 201 = .ok (.goto 9, 3) := by decide +kernel
theorem dc_O_act_204 : decode cb_O_act 204 = .ok (.aload_n 0, 1) := by decide +kernel
theorem dc_O_act_205 : decode cb_O_act 205 = .ok (.getfield 95, 3) := by decide +kernel
theorem dc_O_act_208 : decode cb_O_act 208 = .ok (.iload_n 3, 1) := by decide +kernel
theorem dc_O_act_209 : decode cb_O_act 209 = .ok (.iaload, 1) := by decide +kernel
theorem dc_O_act_210 : decode cb_O_act 210 = .ok (.istore 5, 2) := by decide +kernel
theorem dc_O_act_212 : decode cb_O_act 212 = .ok (.iconst 0, 1) := by decide +kernel
theorem dc_O_act_213 : decode cb_O_act 213 = .ok (.istore 6, 2) := by decide +kernel
theorem dc_O_act_215 : decode cb_O_act 215 = .ok (.iload 6, 2) := by decide +kernel
theorem dc_O_act_217 : decode cb_O_act 217 = .ok (.iload 5, 2) := by decide +kernel
theorem dc_O_act_219 : decode cb_O_act 219 = .ok (.if_icmp .ge 21, 3) := by decide +kernel
theorem dc_O_act_222 : decode cb_O_act 222 = .ok (.aload_n 0, 1) := by decide +kernel
theorem dc_O_act_223 : decode cb_O_act 223 = .ok (.aload_n 0, 1) := by decide +kernel
theorem dc_O_act_224 : decode cb_O_act 224 = .ok (.getfield 92, 3) := by decide +kernel
theorem dc_O_act_227 : decode cb_O_act 227 = .ok (.iconst 5, 1) := by decide +kernel
theorem dc_O_act_228 : decode cb_O_act 228 = .ok (.iload_n 3, 1) := by decide +kernel
theorem dc_O_act_229 : decode cb_O_act 229 = .ok (.imul, 1) := by decide +kernel
theorem dc_O_act_230 : decode cb_O_act 230 = .ok (.iaload, 1) := by decide +kernel
theorem dc_O_act_231 : decode cb_O_act 231 = .ok (.invokevirtual 154, 3) := by decide +kernel
theorem dc_O_act_234 : decode cb_O_act 234 = .ok (.iinc 6 1, 3) := by decide +kernel
theorem dc_O_act_237 : decode cb_O_act 237 = .ok (.goto (-22), 3) := by decide +kernel
theorem dc_O_act_240 : decode cb_O_act 240 = .ok (.goto 202, 3) := by decide +kernel
theorem dc_O_act_243 : decode cb_O_act 243 = .ok (.aload_n 0, 1) := by decide +kernel
theorem dc_O_act_244 : decode cb_O_act 244 = .ok (.iload_n 3, 1) := by decide +kernel
theorem dc_O_act_245 : decode cb_O_act 245 = .ok (.invokevirtual 179, 3) := by decide +kernel
theorem dc_O_act_248 : decode cb_O_act 248 = .ok (.ifCond .ne 194, 3) := by decide +kernel
theorem dc_O_act_251 : decode cb_O_act 251 = .ok (.aload_n 0, 1) := by decide +kernel
theorem dc_O_act_252 : decode cb_O_act 252 = .ok (.iload_n 1, 1) := by decide +kernel
theorem dc_O_act_253 : decode cb_O_act 253 = .ok (.iconst 4, 1) := by decide +kernel
theorem dc_O_act_254 : decode cb_O_act 254 = .ok (.invokevirtual 160, 3) := by decide +kernel
theorem dc_O_act_257 : decode cb_O_act 257 = .ok (.goto 185, 3) := by decide +kernel
theorem dc_O_act_260 : decode cb_O_act 260 = .ok (.aload_n 0, 1) := by decide +kernel
theorem dc_O_act_261 : decode cb_O_act 261 = .ok (.iload_n 1, 1) := by decide +kernel
theorem dc_O_act_262 : decode cb_O_act 262 = .ok (.iload_n 3, 1) := by decide +kernel
theorem dc_O_act_263 : decode cb_O_act 263 = .ok (.iload 4, 2) := by decide +kernel
theorem dc_O_act_265 : decode cb_O_act 265 = .ok (.invokevirtual 182, 3) := by decide +kernel
theorem dc_O_act_268 : decode cb_O_act 268 = .ok (.goto 174, 3) := by decide +kernel
theorem dc_O_act_271 : decode cb_O_act 271 = .ok (.aload_n 0, 1) := by decide +kernel
theorem dc_O_act_272 : decode cb_O_act 272 = .ok (.iload_n 3, 1) := by decide +kernel
theorem dc_O_act_273 : decode cb_O_act 273 = .ok (.invokevirtual 185, 3) := by decide +kernel
theorem dc_O_act_276 : decode cb_O_act 276 = .ok (.istore 6, 2) := by decide +kernel
theorem dc_O_act_278 : decode cb_O_act 278 = .ok (.goto 164, 3) := by decide +kernel
theorem dc_O_act_281 : decode cb_O_act 281 = .ok (.aload_n 0, 1) := by decide +kernel
theorem dc_O_act_282 : decode cb_O_act 282 = .ok (.getfield 52, 3) := by decide +kernel
theorem dc_O_act_285 : decode cb_O_act 285 = .ok (.iload_n 1, 1) := by decide +kernel
theorem dc_O_act_286 : decode cb_O_act 286 = .ok (.iload_n 3, 1) := by decide +kernel
theorem dc_O_act_287 : decode cb_O_act 287 = .ok (.iastore, 1) := by decide +kernel
theorem dc_O_act_288 : decode cb_O_act 288 = .ok (.goto 154, 3) := by decide +kernel
theorem dc_O_act_291 : decode cb_O_act 291 = .ok (.aload_n 0, 1) := by decide +kernel
theorem dc_O_act_292 : decode cb_O_act 292 = .ok (.getfield 40, 3) := by decide +kernel
theorem dc_O_act_295 : decode cb_O_act 295 = .ok (.iload_n 1, 1) := by decide +kernel
theorem dc_O_act_296 : decode cb_O_act 296 = .ok (.iaload, 1) := by decide +kernel
theorem dc_O_act_297 : decode cb_O_act 297 = .ok (.iconst 4, 1) := by decide +kernel
theorem dc_O_act_298 : decode cb_O_act 298 = .ok (.if_icmp .ne 13, 3) := by decide +kernel
theorem dc_O_act_301 : decode cb_O_act 301 = .ok (.aload_n 0, 1) := by decide +kernel
theorem dc_O_act_302 : decode cb_O_act 302 = .ok (.iload_n 1, 1) := by decide +kernel
theorem dc_O_act_303 : decode cb_O_act 303 = .ok (.bipush 6, 2) := by decide +kernel
theorem dc_O_act_305 : decode cb_O_act 305 = .ok (.invokevirtual 160, 3) := by decide +kernel
theorem dc_O_act_308 : decode cb_O_act 308 = .ok (.goto 134, 3) := by decide +kernel
theorem dc_O_act_311 : decode cb_O_act 311 = .ok (.aload_n 0, 1) := by decide +kernel
theorem dc_O_act_312 : decode cb_O_act 312 = .ok (.getfield 34, 3) := by decide +kernel
theorem dc_O_act_315 : decode cb_O_act 315 = .ok (.iconst 4, 1) := by decide +kernel
theorem dc_O_act_316 : decode cb_O_act 316 = .ok (.iload_n 1, 1) := by decide +kernel
theorem dc_O_act_317 : decode cb_O_act 317 = .ok (.imul, 1) := by decide +kernel
theorem dc_O_act_318 : decode cb_O_act 318 = .ok (.aload_n 0, 1) := by decide +kernel
theorem dc_O_act_319 : decode cb_O_act 319 = .ok (.getfield 40, 3) := by decide +kernel
theorem dc_O_act_322 : decode cb_O_act 322 = .ok (.iload_n 1, 1) := by decide +kernel
theorem dc_O_act_323 : decode cb_O_act 323 = .ok (.iaload, 1) := by decide +kernel
theorem dc_O_act_324 : decode cb_O_act 324 = .ok (.iadd, 1) := by decide +kernel
theorem dc_O_act_325 : decode cb_O_act 325 = .ok (.iload_n 3, 1) := by decide +kernel
theorem dc_O_act_326 : decode cb_O_act 326 = .ok (.iastore, 1) := by decide +kernel
theorem dc_O_act_327 : decode cb_O_act 327 = .ok (.aload_n 0, 1) := by decide +kernel
theorem dc_O_act_328 : decode cb_O_act 328 = .ok (.getfield 37, 3) := by decide +kernel
theorem dc_O_act_331 : decode cb_O_act 331 = .ok (.iconst 4, 1) := by decide +kernel
theorem dc_O_act_332 : decode cb_O_act 332 = .ok (.iload_n 1, 1) := by decide +kernel
theorem dc_O_act_333 : decode cb_O_act 333 = .ok (.imul, 1) := by decide +kernel
theorem dc_O_act_334 : decode cb_O_act 334 = .ok (.aload_n 0, 1) := by decide +kernel
theorem dc_O_act_335 : decode cb_O_act 335 = .ok (.getfield 40, 3) := by decide +kernel
theorem dc_O_act_338 : decode cb_O_act 338 = .ok (.iload_n 1, 1) := by decide +kernel
theorem dc_O_act_339 : decode cb_O_act 339 = .ok (.dup2, 1) := by decide +kernel
theorem dc_O_act_340 : decode cb_O_act 340 = .ok (.iaload, 1) := by decide +kernel
theorem dc_O_act_341 : decode cb_O_act 341 = .ok (.dup_x2, 1) := by decide +kernel
theorem dc_O_act_342 : decode cb_O_act 342 = .ok (.iconst 1, 1) := by decide +kernel
theorem dc_O_act_343 : decode cb_O_act 343 = .ok (.iadd, 1) := by decide +kernel
theorem dc_O_act_344 : decode cb_O_act 344 = .ok (.iastore, 1) := by decide +kernel
theorem dc_O_act_345 : decode cb_O_act 345 = .ok (.iadd, 1) := by decide +kernel
theorem dc_O_act_346 : decode cb_O_act 346 = .ok (.iload 4, 2) := by decide +kernel
theorem dc_O_act_348 : decode cb_O_act 348 = .ok (.iastore, 1) := by decide +kernel
theorem dc_O_act_349 : decode cb_O_act 349 = .ok (.goto 93, 3) := by decide +kernel
theorem dc_O_act_352 : decode cb_O_act 352 = .ok (.aload_n 0, 1) := by decide +kernel
theorem dc_O_act_353 : decode cb_O_act 353 = .ok (.getfield 46, 3) := by decide +kernel
theorem dc_O_act_356 : decode cb_O_act 356 = .ok (.iload_n 1, 1) := by decide +kernel
theorem dc_O_act_357 : decode cb_O_act 357 = .ok (.iload_n 3, 1) := by decide +kernel
theorem dc_O_act_358 : decode cb_O_act 358 = .ok (.iastore, 1) := by decide +kernel
theorem dc_O_act_359 : decode cb_O_act 359 = .ok (.goto 83, 3) := by decide +kernel
theorem dc_O_act_362 : decode cb_O_act 362 = .ok (.aload_n 0, 1) := by decide +kernel
theorem dc_O_act_363 : decode cb_O_act 363 = .ok (.iload_n 1, 1) := by decide +kernel
theorem dc_O_act_364 : decode cb_O_act 364 = .ok (.iload_n 3, 1) := by decide +kernel
theorem dc_O_act_365 : decode cb_O_act 365 = .ok (.invokevirtual 136, 3) := by decide +kernel
theorem dc_O_act_368 : decode cb_O_act 368 = .ok (.ifCond .ne 74, 3) := by decide +kernel
theorem dc_O_act_371 : decode cb_O_act 371 = .ok (.aload_n 0, 1) := by decide +kernel
theorem dc_O_act_372 : decode cb_O_act 372 = .ok (.getfield 46, 3) := by decide +kernel
theorem dc_O_act_375 : decode cb_O_act 375 = .ok (.iload_n 1, 1) := by decide +kernel
theorem dc_O_act_376 : decode cb_O_act 376 = .ok (.iload 4, 2) := by decide +kernel
theorem dc_O_act_378 : decode cb_O_act 378 = .ok (.iastore, 1) := by decide +kernel
theorem dc_O_act_379 : decode cb_O_act 379 = .ok (.goto 63, 3) := by decide +kernel
theorem dc_O_act_382 : decode cb_O_act 382 = .ok (.aload_n 0, 1) := by decide +kernel
theorem dc_O_act_383 : decode cb_O_act 383 = .ok (.getfield 107, 3) := by decide +kernel
theorem dc_O_act_386 : decode cb_O_act 386 = .ok (.iconst 0, 1) := by decide +kernel
theorem dc_O_act_387 : decode cb_O_act 387 = .ok (.iaload, 1) := by decide +kernel
theorem dc_O_act_388 : decode cb_O_act 388 = .ok (.bipush 40, 2) := by decide +kernel
theorem dc_O_act_390 : decode cb_O_act 390 = .ok (.if_icmp .ge 20, 3) := by decide +kernel
theorem dc_O_act_393 : decode cb_O_act 393 = .ok (.aload_n 0, 1) := by decide +kernel
theorem dc_O_act_394 : decode cb_O_act 394 = .ok (.getfield 104, 3) := by decide +kernel
theorem dc_O_act_397 : decode cb_O_act 397 = .ok (.aload_n 0, 1) := by decide +kernel
theorem dc_O_act_398 : decode cb_O_act 398 = .ok (.getfield 107, 3) := by decide +kernel
theorem dc_O_act_401 : decode cb_O_act 401 = .ok (.iconst 0, 1) := by decide +kernel
theorem dc_O_act_402 : decode cb_O_act 402 = .ok (.iaload, 1) := by decide +kernel
theorem dc_O_act_403 : decode cb_O_act 403 = .ok (.aload_n 0, 1) := by decide +kernel
theorem dc_O_act_404 : decode cb_O_act 404 = .ok (.iload_n 1, 1) := by decide +kernel
theorem dc_O_act_405 : decode cb_O_act 405 = .ok (.iload_n 3, 1) := by decide +kernel
theorem dc_O_act_406 : decode cb_O_act 406 = .ok (.invokevirtual 136, 3) := by decide +kernel
theorem dc_O_act_409 : decode cb_O_act 409 = .ok (.iastore, 1) := by decide +kernel
theorem dc_O_act_410 : decode cb_O_act 410 = .ok (.aload_n 0, 1) := by decide +kernel
theorem dc_O_act_411 : decode cb_O_act 411 = .ok (.getfield 107, 3) := by decide +kernel
theorem dc_O_act_414 : decode cb_O_act 414 = .ok (.iconst 0, 1) := by decide +kernel
theorem dc_O_act_415 : decode cb_O_act 415 = .ok (.dup2, 1) := by decide +kernel
theorem dc_O_act_416 : decode cb_O_act 416 = .ok (.iaload, 1) := by decide +kernel
theorem dc_O_act_417 : decode cb_O_act 417 = .ok (.iconst 1, 1) := by decide +kernel
theorem dc_O_act_418 : decode cb_O_act 418 = .ok (.iadd, 1) := by decide +kernel
theorem dc_O_act_419 : decode cb_O_act 419 = .ok (.iastore, 1) := by decide +kernel
theorem dc_O_act_420 : decode cb_O_act 420 = .ok (.goto 22, 3) := by decide +kernel
theorem dc_O_act_423 : decode cb_O_act 423 = .ok (.aload_n 0, 1) := by decide +kernel
theorem dc_O_act_424 : decode cb_O_act 424 = .ok (.iload_n 1, 1) := by decide +kernel
theorem dc_O_act_425 : decode cb_O_act 425 = .ok (.aload_n 0, 1) := by decide +kernel
theorem dc_O_act_426 : decode cb_O_act 426 = .ok (.iload_n 1, 1) := by decide +kernel
theorem dc_O_act_427 : decode cb_O_act 427 = .ok (.iload_n 3, 1) := by decide +kernel
theorem dc_O_act_428 : decode cb_O_act 428 = .ok (.invokevirtual 136, 3) := by decide +kernel
theorem dc_O_act_431 : decode cb_O_act 431 = .ok (.invokevirtual 147, 3) := by decide +kernel
theorem dc_O_act_434 : decode cb_O_act 434 = .ok (.goto 8, 3) := by decide +kernel
theorem dc_O_act_437 : decode cb_O_act 437 = .ok (.aload_n 0, 1) := by decide +kernel
theorem dc_O_act_438 : decode cb_O_act 438 = .ok (.iconst 1, 1) := by decide +kernel
theorem dc_O_act_439 : decode cb_O_act 439 = .ok (.putfield 188, 3) := by decide +kernel
theorem dc_O_act_442 : decode cb_O_act 442 = .ok (.return_, 1) := by decide +kernel
theorem dc_O_ready_0 : decode cb_O_ready 0 = .ok (.iconst 1, 1) := by decide +kernel
theorem dc_O_ready_1 : decode cb_O_ready 1 = .ok (.istore_n 1, 1) := by decide +kernel
theorem dc_O_ready_2 : decode cb_O_ready 2 = .ok (.iload_n 1, 1) := by decide +kernel
theorem dc_O_ready_3 : decode cb_O_ready 3 = .ok (.bipush 6, 2) := by decide +kernel
theorem dc_O_ready_5 : decode cb_O_ready 5 = .ok (.if_icmp .ge 45, 3) := by decide +kernel
theorem dc_O_ready_8 : decode cb_O_ready 8 = .ok (.aload_n 0, 1) := by decide +kernel
theorem dc_O_ready_9 : decode cb_O_ready 9 = .ok (.getfield 43, 3) := by decide +kernel
theorem dc_O_ready_12 : decode cb_O_ready 12 = .ok (.aload_n 0, 1) := by decide +kernel
theorem dc_O_ready_13 : decode cb_O_ready 13 = .ok (.getfield 107, 3) := by decide +kernel
theorem dc_O_ready_16 : decode cb_O_ready 16 = .ok (.bipush 6, 2) := by decide +kernel
theorem dc_O_ready_18 : decode cb_O_ready 18 = .ok (.iaload, 1) := by decide +kernel
theorem dc_O_ready_19 : decode cb_O_ready 19 = .ok (.iload_n 1, 1) := by decide +kernel
theorem dc_O_ready_20 : decode cb_O_ready 20 = .ok (.iadd, 1) := by decide +kernel
theorem dc_O_ready_21 : decode cb_O_ready 21 = .ok (.iconst 5, 1) := by decide +kernel
theorem dc_O_ready_22 : decode cb_O_ready 22 = .ok (.iadd, 1) := by decide +kernel
theorem dc_O_ready_23 : decode cb_O_ready 23 = .ok (.iconst 5, 1) := by decide +kernel
theorem dc_O_ready_24 : decode cb_O_ready 24 = .ok (.irem, 1) := by decide +kernel
theorem dc_O_ready_25 : decode cb_O_ready 25 = .ok (.iaload, 1) := by decide +kernel
theorem dc_O_ready_26 : decode cb_O_ready 26 = .ok (.iconst 1, 1) := by decide +kernel
theorem dc_O_ready_27 : decode cb_O_ready 27 = .ok (.if_icmp .ne 17, 3) := by decide +kernel
theorem dc_O_ready_30 : decode cb_O_ready 30 = .ok (.aload_n 0, 1) := by decide +kernel
theorem dc_O_ready_31 : decode cb_O_ready 31 = .ok (.getfield 107, 3) := by decide +kernel
theorem dc_O_ready_34 : decode cb_O_ready 34 = .ok (.bipush 6, 2) := by decide +kernel
theorem dc_O_ready_36 : decode cb_O_ready 36 = .ok (.iaload, 1) := by decide +kernel
theorem dc_O_ready_37 : decode cb_O_ready 37 = .ok (.iload_n 1, 1) := by decide +kernel
theorem dc_O_ready_38 : decode cb_O_ready 38 = .ok (.iadd, 1) := by decide +kernel
theorem dc_O_ready_39 : decode cb_O_ready 39 = .ok (.iconst 5, 1) := by decide +kernel
theorem dc_O_ready_40 : decode cb_O_ready 40 = .ok (.iadd, 1) := by decide +kernel
theorem dc_O_ready_41 : decode cb_O_ready 41 = .ok (.iconst 5, 1) := by decide +kernel
theorem dc_O_ready_42 : decode cb_O_ready 42 = .ok (.irem, 1) := by decide +kernel
theorem dc_O_ready_43 : decode cb_O_ready 43 = .ok (.ireturn, 1) := by decide +kernel
theorem dc_O_ready_44 : decode cb_O_ready 44 = .ok (.iinc 1 1, 3) := by decide +kernel
theorem dc_O_ready_47 : decode cb_O_ready 47 = .ok (.goto (-45), 3) := by decide +kernel
theorem dc_O_ready_50 : decode cb_O_ready 50 = .ok (.iconst (-1), 1) := by decide +kernel
theorem dc_O_ready_51 : decode cb_O_ready 51 = .ok (.ireturn, 1) := by decide +kernel
theorem dc_O_turn_0 : decode cb_O_turn 0 = .ok (.aload_n 0, 1) := by decide +kernel
theorem dc_O_turn_1 : decode cb_O_turn 1 = .ok (.getfield 107, 3) := by decide +kernel
theorem dc_O_turn_4 : decode cb_O_turn 4 = .ok (.iconst 2, 1) := by decide +kernel
theorem dc_O_turn_5 : decode cb_O_turn 5 = .ok (.dup2, 1) := by decide +kernel
theorem dc_O_turn_6 : decode cb_O_turn 6 = .ok (.iaload, 1) := by decide +kernel
theorem dc_O_turn_7 : decode cb_O_turn 7 = .ok (.iconst 1, 1) := by decide +kernel
theorem dc_O_turn_8 : decode cb_O_turn 8 = .ok (.iadd, 1) := by decide +kernel
theorem dc_O_turn_9 : decode cb_O_turn 9 = .ok (.iastore, 1) := by decide +kernel
theorem dc_O_turn_10 : decode cb_O_turn 10 = .ok (.aload_n 0, 1) := by decide +kernel
theorem dc_O_turn_11 : decode cb_O_turn 11 = .ok (.getfield 107, 3) := by decide +kernel
theorem dc_O_turn_14 : decode cb_O_turn 14 = .ok (.bipush 6, 2) := by decide +kernel
theorem dc_O_turn_16 : decode cb_O_turn 16 = .ok (.iload_n 1, 1) := by decide +kernel
theorem dc_O_turn_17 : decode cb_O_turn 17 = .ok (.iastore, 1) := by decide +kernel
theorem dc_O_turn_18 : decode cb_O_turn 18 = .ok (.aload_n 0, 1) := by decide +kernel
theorem dc_O_turn_19 : decode cb_O_turn 19 = .ok (.iconst 0, 1) := by decide +kernel
theorem dc_O_turn_20 : decode cb_O_turn 20 = .ok (.putfield 188, 3) := by decide +kernel
theorem dc_O_turn_23 : decode cb_O_turn 23 = .ok (.aload_n 0, 1) := by decide +kernel
theorem dc_O_turn_24 : decode cb_O_turn 24 = .ok (.getfield 77, 3) := by decide +kernel
theorem dc_O_turn_27 : decode cb_O_turn 27 = .ok (.iload_n 1, 1) := by decide +kernel
theorem dc_O_turn_28 : decode cb_O_turn 28 = .ok (.baload, 1) := by decide +kernel
theorem dc_O_turn_29 : decode cb_O_turn 29 = .ok (.ifCond .eq 17, 3) := by decide +kernel
theorem dc_O_turn_32 : decode cb_O_turn 32 = .ok (.aload_n 0, 1) := by decide +kernel
theorem dc_O_turn_33 : decode cb_O_turn 33 = .ok (.getfield 77, 3) := by decide +kernel
theorem dc_O_turn_36 : decode cb_O_turn 36 = .ok (.iload_n 1, 1) := by decide +kernel
theorem dc_O_turn_37 : decode cb_O_turn 37 = .ok (.iconst 0, 1) := by decide +kernel
theorem dc_O_turn_38 : decode cb_O_turn 38 = .ok (.bastore, 1) := by decide +kernel
theorem dc_O_turn_39 : decode cb_O_turn 39 = .ok (.aload_n 0, 1) := by decide +kernel
theorem dc_O_turn_40 : decode cb_O_turn 40 = .ok (.iload_n 1, 1) := by decide +kernel
theorem dc_O_turn_41 : decode cb_O_turn 41 = .ok (.bipush 7, 2) := by decide +kernel
theorem dc_O_turn_43 : decode cb_O_turn 43 = .ok (.invokevirtual 160, 3) := by decide +kernel
theorem dc_O_turn_46 : decode cb_O_turn 46 = .ok (.iconst 0, 1) := by decide +kernel
theorem dc_O_turn_47 : decode cb_O_turn 47 = .ok (.istore_n 2, 1) := by decide +kernel
theorem dc_O_turn_48 : decode cb_O_turn 48 = .ok (.iload_n 2, 1) := by decide +kernel
theorem dc_O_turn_49 : decode cb_O_turn 49 = .ok (.aload_n 0, 1) := by decide +kernel
theorem dc_O_turn_50 : decode cb_O_turn 50 = .ok (.getfield 110, 3) := by decide +kernel
theorem dc_O_turn_53 : decode cb_O_turn 53 = .ok (.if_icmp .ge 118, 3) := by decide +kernel
theorem dc_O_turn_56 : decode cb_O_turn 56 = .ok (.aload_n 0, 1) := by decide +kernel
theorem dc_O_turn_57 : decode cb_O_turn 57 = .ok (.getfield 43, 3) := by decide +kernel
theorem dc_O_turn_60 : decode cb_O_turn 60 = .ok (.iload_n 1, 1) := by decide +kernel
theorem dc_O_turn_61 : decode cb_O_turn 61 = .ok (.iaload, 1) := by decide +kernel
theorem dc_O_turn_62 : decode cb_O_turn 62 = .ok (.iconst 1, 1) := by decide +kernel
theorem dc_O_turn_63 : decode cb_O_turn 63 = .ok (.if_icmp .ne 108, 3) := by decide +kernel
theorem dc_O_turn_66 : decode cb_O_turn 66 = .ok (.aload_n 0, 1) := by decide +kernel
theorem dc_O_turn_67 : decode cb_O_turn 67 = .ok (.getfield 188, 3) := by decide +kernel
theorem dc_O_turn_70 : decode cb_O_turn 70 = .ok (.ifCond .ne 101, 3) := by decide +kernel
theorem dc_O_turn_73 : decode cb_O_turn 73 = .ok (.aload_n 0, 1) := by decide +kernel
theorem dc_O_turn_74 : decode cb_O_turn 74 = .ok (.getfield 46, 3) := by decide +kernel
theorem dc_O_turn_77 : decode cb_O_turn 77 = .ok (.iload_n 1, 1) := by decide +kernel
theorem dc_O_turn_78 : decode cb_O_turn 78 = .ok (.iaload, 1) := by decide +kernel
theorem dc_O_turn_79 : decode cb_O_turn 79 = .ok (.istore_n 3, 1) := by decide +kernel
theorem dc_O_turn_80 : decode cb_O_turn 80 = .ok (.iload_n 3, 1) := by decide +kernel
theorem dc_O_turn_81 : decode cb_O_turn 81 = .ok (.aload_n 0, 1) := by decide +kernel
theorem dc_O_turn_82 : decode cb_O_turn 82 = .ok (.getfield 19, 3) := by decide +kernel
theorem dc_O_turn_85 : decode cb_O_turn 85 = .ok (.iload_n 1, 1) := by decide +kernel
theorem dc_O_turn_86 : decode cb_O_turn 86 = .ok (.iaload, 1) := by decide +kernel
theorem dc_O_turn_87 : decode cb_O_turn 87 = .ok (.if_icmp .lt 10, 3) := by decide +kernel
theorem dc_O_turn_90 : decode cb_O_turn 90 = .ok (.aload_n 0, 1) := by decide +kernel
theorem dc_O_turn_91 : decode cb_O_turn 91 = .ok (.iload_n 1, 1) := by decide +kernel
theorem dc_O_turn_92 : decode cb_O_turn 92 = .ok (.iconst 0, 1) := by decide +kernel
theorem dc_O_turn_93 : decode cb_O_turn 93 = .ok (.invokevirtual 147, 3) := by decide +kernel
theorem dc_O_turn_96 : decode cb_O_turn 96 = .ok (.return_, 1) := by decide +kernel
theorem dc_O_turn_97 : decode cb_O_turn 97 = .ok (.aload_n 0, 1) := by decide +kernel
theorem dc_O_turn_98 : decode cb_O_turn 98 = .ok (.getfield 46, 3) := by decide +kernel
theorem dc_O_turn_101 : decode cb_O_turn 101 = .ok (.iload_n 1, 1) := by decide +kernel
theorem dc_O_turn_102 : decode cb_O_turn 102 = .ok (.dup2, 1) := by decide +kernel
theorem dc_O_turn_103 : decode cb_O_turn 103 = .ok (.iaload, 1) := by decide +kernel
theorem dc_O_turn_104 : decode cb_O_turn 104 = .ok (.iconst 1, 1) := by decide +kernel
theorem dc_O_turn_105 : decode cb_O_turn 105 = .ok (.iadd, 1) := by decide +kernel
theorem dc_O_turn_106 : decode cb_O_turn 106 = .ok (.iastore, 1) := by decide +kernel
theorem dc_O_turn_107 : decode cb_O_turn 107 = .ok (.aload_n 0, 1) := by decide +kernel
theorem dc_O_turn_108 : decode cb_O_turn 108 = .ok (.getfield 55, 3) := by decide +kernel
theorem dc_O_turn_111 : decode cb_O_turn 111 = .ok (.iload_n 1, 1) := by decide +kernel
theorem dc_O_turn_112 : decode cb_O_turn 112 = .ok (.dup2, 1) := by decide +kernel
theorem dc_O_turn_113 : decode cb_O_turn 113 = .ok (.iaload, 1) := by decide +kernel
theorem dc_O_turn_114 : decode cb_O_turn 114 = .ok (.iconst 1, 1) := by decide +kernel
theorem dc_O_turn_115 : decode cb_O_turn 115 = .ok (.iadd, 1) := by decide +kernel
theorem dc_O_turn_116 : decode cb_O_turn 116 = .ok (.iastore, 1) := by decide +kernel
theorem dc_O_turn_117 : decode cb_O_turn 117 = .ok (.aload_n 0, 1) := by decide +kernel
theorem dc_O_turn_118 : decode cb_O_turn 118 = .ok (.getfield 107, 3) := by decide +kernel
theorem dc_O_turn_121 : decode cb_O_turn 121 = .ok (.iconst 1, 1) := by decide +kernel
theorem dc_O_turn_122 : decode cb_O_turn 122 = .ok (.dup2, 1) := by decide +kernel
theorem dc_O_turn_123 : decode cb_O_turn 123 = .ok (.iaload, 1) := by decide +kernel
theorem dc_O_turn_124 : decode cb_O_turn 124 = .ok (.iconst 1, 1) := by decide +kernel
theorem dc_O_turn_125 : decode cb_O_turn 125 = .ok (.iadd, 1) := by decide +kernel
theorem dc_O_turn_126 : decode cb_O_turn 126 = .ok (.iastore, 1) := by decide +kernel
theorem dc_O_turn_127 : decode cb_O_turn 127 = .ok (.aload_n 0, 1) := by decide +kernel
theorem dc_O_turn_128 : decode cb_O_turn 128 = .ok (.iload_n 1, 1) := by decide +kernel
theorem dc_O_turn_129 : decode cb_O_turn 129 = .ok (.aload_n 0, 1) := by decide +kernel
theorem dc_O_turn_130 : decode cb_O_turn 130 = .ok (.getfield 7, 3) := by decide +kernel
theorem dc_O_turn_133 : decode cb_O_turn 133 = .ok (.bipush 24, 2) := by decide +kernel
theorem dc_O_turn_135 : decode cb_O_turn 135 = .ok (.iload_n 1, 1) := by decide +kernel
theorem dc_O_turn_136 : decode cb_O_turn 136 = .ok (.imul, 1) := by decide +kernel
theorem dc_O_turn_137 : decode cb_O_turn 137 = .ok (.iload_n 3, 1) := by decide +kernel
theorem dc_O_turn_138 : decode cb_O_turn 138 = .ok (.iadd, 1) := by decide +kernel
theorem dc_O_turn_139 : decode cb_O_turn 139 = .ok (.iaload, 1) := by decide +kernel
theorem dc_O_turn_140 : decode cb_O_turn 140 = .ok (.aload_n 0, 1) := by decide +kernel
theorem dc_O_turn_141 : decode cb_O_turn 141 = .ok (.getfield 13, 3) := by decide +kernel
theorem dc_O_turn_144 : decode cb_O_turn 144 = .ok (.bipush 24, 2) := by decide +kernel
theorem dc_O_turn_146 : decode cb_O_turn 146 = .ok (.iload_n 1, 1) := by decide +kernel
theorem dc_O_turn_147 : decode cb_O_turn 147 = .ok (.imul, 1) := by decide +kernel
theorem dc_O_turn_148 : decode cb_O_turn 148 = .ok (.iload_n 3, 1) := by decide +kernel
theorem dc_O_turn_149 : decode cb_O_turn 149 = .ok (.iadd, 1) := by decide +kernel
theorem dc_O_turn_150 : decode cb_O_turn 150 = .ok (.iaload, 1) := by decide +kernel
theorem dc_O_turn_151 : decode cb_O_turn 151 = .ok (.aload_n 0, 1) := by decide +kernel
theorem dc_O_turn_152 : decode cb_O_turn 152 = .ok (.getfield 16, 3) := by decide +kernel
theorem dc_O_turn_155 : decode cb_O_turn 155 = .ok (.bipush 24, 2) := by decide +kernel
theorem dc_O_turn_157 : decode cb_O_turn 157 = .ok (.iload_n 1, 1) := by decide +kernel
theorem dc_O_turn_158 : decode cb_O_turn 158 = .ok (.imul, 1) := by decide +kernel
theorem dc_O_turn_159 : decode cb_O_turn 159 = .ok (.iload_n 3, 1) := by decide +kernel
theorem dc_O_turn_160 : decode cb_O_turn 160 = .ok (.iadd, 1) := by decide +kernel
theorem dc_O_turn_161 : decode cb_O_turn 161 = .ok (.iaload, 1) := by decide +kernel
theorem dc_O_turn_162 : decode cb_O_turn 162 = .ok (.invokevirtual 199, 3) := by decide +kernel
theorem dc_O_turn_165 : decode cb_O_turn 165 = .ok (.iinc 2 1, 3) := by decide +kernel
theorem dc_O_turn_168 : decode cb_O_turn 168 = .ok (.goto (-120), 3) := by decide +kernel
theorem dc_O_turn_171 : decode cb_O_turn 171 = .ok (.return_, 1) := by decide +kernel
theorem dc_O_run_0 : decode cb_O_run 0 = .ok (.aload_n 0, 1) := by decide +kernel
theorem dc_O_run_1 : decode cb_O_run 1 = .ok (.iconst 0, 1) := by decide +kernel
theorem dc_O_run_2 : decode cb_O_run 2 = .ok (.putfield 114, 3) := by decide +kernel
theorem dc_O_run_5 : decode cb_O_run 5 = .ok (.iload_n 1, 1) := by decide +kernel
theorem dc_O_run_6 : decode cb_O_run 6 = .ok (.iconst 1, 1) := by decide +kernel
theorem dc_O_run_7 : decode cb_O_run 7 = .ok (.bipush 40, 2) := by decide +kernel
theorem dc_O_run_9 : decode cb_O_run 9 = .ok (.invokestatic 117, 3) := by decide +kernel
theorem dc_O_run_12 : decode cb_O_run 12 = .ok (.ifCond .ne 9, 3) := by decide +kernel
theorem dc_O_run_15 : decode cb_O_run 15 = .ok (.aload_n 0, 1) := by decide +kernel
theorem dc_O_run_16 : decode cb_O_run 16 = .ok (.iconst 1, 1) := by decide +kernel
theorem dc_O_run_17 : decode cb_O_run 17 = .ok (.invokevirtual 124, 3) := by decide +kernel
theorem dc_O_run_20 : decode cb_O_run 20 = .ok (.ireturn, 1) := by decide +kernel
theorem dc_O_run_21 : decode cb_O_run 21 = .ok (.aload_n 0, 1) := by decide +kernel
theorem dc_O_run_22 : decode cb_O_run 22 = .ok (.getfield 107, 3) := by decide +kernel
theorem dc_O_run_25 : decode cb_O_run 25 = .ok (.iconst 1, 1) := by decide +kernel
theorem dc_O_run_26 : decode cb_O_run 26 = .ok (.iaload, 1) := by decide +kernel
theorem dc_O_run_27 : decode cb_O_run 27 = .ok (.istore_n 2, 1) := by decide +kernel
theorem dc_O_run_28 : decode cb_O_run 28 = .ok (.iconst 0, 1) := by decide +kernel
theorem dc_O_run_29 : decode cb_O_run 29 = .ok (.istore_n 3, 1) := by decide +kernel
theorem dc_O_run_30 : decode cb_O_run 30 = .ok (.iload_n 3, 1) := by decide +kernel
theorem dc_O_run_31 : decode cb_O_run 31 = .ok (.iload_n 1, 1) := by decide +kernel
theorem dc_O_run_32 : decode cb_O_run 32 = .ok (.if_icmp .ge 24, 3) := by decide +kernel
theorem dc_O_run_35 : decode cb_O_run 35 = .ok (.aload_n 0, 1) := by decide +kernel
theorem dc_O_run_36 : decode cb_O_run 36 = .ok (.invokevirtual 192, 3) := by decide +kernel
theorem dc_O_run_39 : decode cb_O_run 39 = .ok (.ifCond .lt 17, 3) := by decide +kernel
theorem dc_O_run_42 : decode cb_O_run 42 = .ok (.aload_n 0, 1) := by decide +kernel
theorem dc_O_run_43 : decode cb_O_run 43 = .ok (.aload_n 0, 1) := by decide +kernel
theorem dc_O_run_44 : decode cb_O_run 44 = .ok (.invokevirtual 192, 3) := by decide +kernel
theorem dc_O_run_47 : decode cb_O_run 47 = .ok (.invokevirtual 196, 3) := by decide +kernel
theorem dc_O_run_50 : decode cb_O_run 50 = .ok (.iinc 3 1, 3) := by decide +kernel
theorem dc_O_run_53 : decode cb_O_run 53 = .ok (.goto (-23), 3) := by decide +kernel
theorem dc_O_run_56 : decode cb_O_run 56 = .ok (.aload_n 0, 1) := by decide +kernel
theorem dc_O_run_57 : decode cb_O_run 57 = .ok (.getfield 107, 3) := by decide +kernel
theorem dc_O_run_60 : decode cb_O_run 60 = .ok (.iconst 1, 1) := by decide +kernel
theorem dc_O_run_61 : decode cb_O_run 61 = .ok (.iaload, 1) := by decide +kernel
theorem dc_O_run_62 : decode cb_O_run 62 = .ok (.iload_n 2, 1) := by decide +kernel
theorem dc_O_run_63 : decode cb_O_run 63 = .ok (.isub, 1) := by decide +kernel
theorem dc_O_run_64 : decode cb_O_run 64 = .ok (.ireturn, 1) := by decide +kernel
theorem fd_O_7 : th_fd rn_O 7 tf_O 36 0 := ⟨by decide, (tb 628 (by decide +kernel) rfl)⟩
theorem fd_O_13 : th_fd rn_O 13 tf_O 36 1 := ⟨by decide, (tb 629 (by decide +kernel) rfl)⟩
theorem fd_O_16 : th_fd rn_O 16 tf_O 36 2 := ⟨by decide, (tb 630 (by decide +kernel) rfl)⟩
theorem fd_O_19 : th_fd rn_O 19 tf_O 36 3 := ⟨by decide, (tb 631 (by decide +kernel) rfl)⟩
theorem fd_O_22 : th_fd rn_O 22 tf_O 36 4 := ⟨by decide, (tb 632 (by decide +kernel) rfl)⟩
theorem fd_O_25 : th_fd rn_O 25 tf_O 36 5 := ⟨by decide, (tb 633 (by decide +kernel) rfl)⟩
theorem fd_O_28 : th_fd rn_O 28 tf_O 36 6 := ⟨by decide, (tb 634 (by decide +kernel) rfl)⟩
theorem fd_O_31 : th_fd rn_O 31 tf_O 36 7 := ⟨by decide, (tb 635 (by decide +kernel) rfl)⟩
theorem fd_O_34 : th_fd rn_O 34 tf_O 36 8 := ⟨by decide, (tb 636 (by decide +kernel) rfl)⟩
theorem fd_O_37 : th_fd rn_O 37 tf_O 36 9 := ⟨by decide, (tb 637 (by decide +kernel) rfl)⟩
theorem fd_O_40 : th_fd rn_O 40 tf_O 36 10 := ⟨by decide, (tb 638 (by decide +kernel) rfl)⟩
theorem fd_O_43 : th_fd rn_O 43 tf_O 36 11 := ⟨by decide, (tb 639 (by decide +kernel) rfl)⟩
theorem fd_O_46 : th_fd rn_O 46 tf_O 36 12 := ⟨by decide, (tb 640 (by decide +kernel) rfl)⟩
theorem fd_O_49 : th_fd rn_O 49 tf_O 36 13 := ⟨by decide, (tb 641 (by decide +kernel) rfl)⟩
theorem fd_O_52 : th_fd rn_O 52 tf_O 36 14 := ⟨by decide, (tb 642 (by decide +kernel) rfl)⟩
theorem fd_O_55 : th_fd rn_O 55 tf_O 36 15 := ⟨by decide, (tb 643 (by decide +kernel) rfl)⟩
theorem fd_O_58 : th_fd rn_O 58 tf_O 36 16 := ⟨by decide, (tb 644 (by decide +kernel) rfl)⟩
theorem fd_O_61 : th_fd rn_O 61 tf_O 36 17 := ⟨by decide, (tb 645 (by decide +kernel) rfl)⟩
theorem fd_O_64 : th_fd rn_O 64 tf_O 36 18 := ⟨by decide, (tb 646 (by decide +kernel) rfl)⟩
theorem fd_O_67 : th_fd rn_O 67 tf_O 36 19 := ⟨by decide, (tb 647 (by decide +kernel) rfl)⟩
theorem fd_O_70 : th_fd rn_O 70 tf_O 36 20 := ⟨by decide, (tb 648 (by decide +kernel) rfl)⟩
theorem fd_O_73 : th_fd rn_O 73 tf_O 36 21 := ⟨by decide, (tb 649 (by decide +kernel) rfl)⟩
theorem fd_O_77 : th_fd rn_O 77 tf_O 36 22 := ⟨by decide, (tb 650 (by decide +kernel) rfl)⟩
theorem fd_O_80 : th_fd rn_O 80 tf_O 36 23 := ⟨by decide, (tb 651 (by decide +kernel) rfl)⟩
theorem fd_O_83 : th_fd rn_O 83 tf_O 36 24 := ⟨by decide, (tb 652 (by decide +kernel) rfl)⟩
theorem fd_O_86 : th_fd rn_O 86 tf_O 36 25 := ⟨by decide, (tb 653 (by decide +kernel) rfl)⟩
theorem fd_O_89 : th_fd rn_O 89 tf_O 36 26 := ⟨by decide, (tb 654 (by decide +kernel) rfl)⟩
theorem fd_O_92 : th_fd rn_O 92 tf_O 36 27 := ⟨by decide, (tb 655 (by decide +kernel) rfl)⟩
theorem fd_O_95 : th_fd rn_O 95 tf_O 36 28 := ⟨by decide, (tb 656 (by decide +kernel) rfl)⟩
theorem fd_O_98 : th_fd rn_O 98 tf_O 36 29 := ⟨by decide, (tb 657 (by decide +kernel) rfl)⟩
theorem fd_O_101 : th_fd rn_O 101 tf_O 36 30 := ⟨by decide, (tb 658 (by decide +kernel) rfl)⟩
theorem fd_O_104 : th_fd rn_O 104 tf_O 36 31 := ⟨by decide, (tb 659 (by decide +kernel) rfl)⟩
theorem fd_O_107 : th_fd rn_O 107 tf_O 36 32 := ⟨by decide, (tb 660 (by decide +kernel) rfl)⟩
theorem fd_O_110 : th_fd rn_O 110 tf_O 36 33 := ⟨by decide, (tb 661 (by decide +kernel) rfl)⟩
theorem fd_O_114 : th_fd rn_O 114 tf_O 36 34 := ⟨by decide, (tb 662 (by decide +kernel) rfl)⟩
theorem fd_O_188 : th_fd rn_O 188 tf_O 36 35 := ⟨by decide, (tb 663 (by decide +kernel) rfl)⟩
theorem ok_O_117 : th_okS rn_O 117 yn_O_is cb_O_is 3 (some .boolean) 3 := ⟨⟨(tb 748 (by decide +kernel) rfl), (tb 53 (by decide +kernel) rfl), (tb 746 (by decide +kernel) rfl), by decide, by decide, by decide⟩, (tb 747 (by decide +kernel) rfl)⟩
theorem ok_O_121 : th_okS rn_O 121 yn_O_fits cb_O_fits 3 (some .boolean) 3 := ⟨⟨(tb 751 (by decide +kernel) rfl), (tb 53 (by decide +kernel) rfl), (tb 749 (by decide +kernel) rfl), by decide, by decide, by decide⟩, (tb 750 (by decide +kernel) rfl)⟩
theorem ok_O_124 : th_okV rn_O 124 rn_O yn_O_refuse cb_O_refuse 2 (some .int) 1 := ⟨⟨(tb 755 (by decide +kernel) rfl), (tb 53 (by decide +kernel) rfl), (tb 752 (by decide +kernel) rfl), by decide, by decide, by decide⟩, (tb 754 (by decide +kernel) rfl), (tb 24 (by decide +kernel) rfl)⟩
theorem ok_O_128 : th_okV rn_O 128 rn_O yn_O_alive cb_O_alive 2 (some .boolean) 1 := ⟨⟨(tb 759 (by decide +kernel) rfl), (tb 53 (by decide +kernel) rfl), (tb 756 (by decide +kernel) rfl), by decide, by decide, by decide⟩, (tb 758 (by decide +kernel) rfl), (tb 25 (by decide +kernel) rfl)⟩
theorem ok_O_132 : th_okV rn_O 132 rn_O yn_O_bound cb_O_bound 4 (some .int) 2 := ⟨⟨(tb 791 (by decide +kernel) rfl), (tb 53 (by decide +kernel) rfl), (tb 788 (by decide +kernel) rfl), by decide, by decide, by decide⟩, (tb 790 (by decide +kernel) rfl), (tb 31 (by decide +kernel) rfl)⟩
theorem ok_O_136 : th_okV rn_O 136 rn_O yn_O_get cb_O_get 4 (some .int) 2 := ⟨⟨(tb 787 (by decide +kernel) rfl), (tb 53 (by decide +kernel) rfl), (tb 784 (by decide +kernel) rfl), by decide, by decide, by decide⟩, (tb 786 (by decide +kernel) rfl), (tb 30 (by decide +kernel) rfl)⟩
theorem ok_O_139 : th_okV rn_O 139 rn_O yn_O_put cb_O_put 5 none 3 := ⟨⟨(tb 795 (by decide +kernel) rfl), (tb 53 (by decide +kernel) rfl), (tb 792 (by decide +kernel) rfl), by decide, by decide, by decide⟩, (tb 794 (by decide +kernel) rfl), (tb 32 (by decide +kernel) rfl)⟩
theorem ok_O_143 : th_okV rn_O 143 rn_O yn_O_pass cb_O_pass 4 none 1 := ⟨⟨(tb 799 (by decide +kernel) rfl), (tb 53 (by decide +kernel) rfl), (tb 796 (by decide +kernel) rfl), by decide, by decide, by decide⟩, (tb 798 (by decide +kernel) rfl), (tb 33 (by decide +kernel) rfl)⟩
theorem ok_O_147 : th_okV rn_O 147 rn_O yn_O_end cb_O_end 5 none 2 := ⟨⟨(tb 783 (by decide +kernel) rfl), (tb 53 (by decide +kernel) rfl), (tb 780 (by decide +kernel) rfl), by decide, by decide, by decide⟩, (tb 782 (by decide +kernel) rfl), (tb 29 (by decide +kernel) rfl)⟩
theorem ok_O_151 : th_okV rn_O 151 rn_O yn_O_goFor cb_O_goFor 4 none 3 := ⟨⟨(tb 819 (by decide +kernel) rfl), (tb 53 (by decide +kernel) rfl), (tb 816 (by decide +kernel) rfl), by decide, by decide, by decide⟩, (tb 818 (by decide +kernel) rfl), (tb 38 (by decide +kernel) rfl)⟩
theorem ok_O_154 : th_okV rn_O 154 rn_O yn_O_leaveWait cb_O_leaveWait 5 none 1 := ⟨⟨(tb 831 (by decide +kernel) rfl), (tb 53 (by decide +kernel) rfl), (tb 828 (by decide +kernel) rfl), by decide, by decide, by decide⟩, (tb 830 (by decide +kernel) rfl), (tb 41 (by decide +kernel) rfl)⟩
theorem ok_O_157 : th_okV rn_O 157 rn_O yn_O_leaveJoin cb_O_leaveJoin 5 none 1 := ⟨⟨(tb 847 (by decide +kernel) rfl), (tb 53 (by decide +kernel) rfl), (tb 844 (by decide +kernel) rfl), by decide, by decide, by decide⟩, (tb 846 (by decide +kernel) rfl), (tb 45 (by decide +kernel) rfl)⟩
theorem ok_O_160 : th_okV rn_O 160 rn_O yn_O_error cb_O_error 3 none 2 := ⟨⟨(tb 779 (by decide +kernel) rfl), (tb 53 (by decide +kernel) rfl), (tb 776 (by decide +kernel) rfl), by decide, by decide, by decide⟩, (tb 778 (by decide +kernel) rfl), (tb 28 (by decide +kernel) rfl)⟩
theorem ok_O_163 : th_okV rn_O 163 rn_O yn_O_isStopped cb_O_isStopped 2 (some .boolean) 1 := ⟨⟨(tb 827 (by decide +kernel) rfl), (tb 53 (by decide +kernel) rfl), (tb 824 (by decide +kernel) rfl), by decide, by decide, by decide⟩, (tb 826 (by decide +kernel) rfl), (tb 40 (by decide +kernel) rfl)⟩
theorem ok_O_166 : th_okV rn_O 166 rn_O yn_O_bind cb_O_bind 4 none 3 := ⟨⟨(tb 807 (by decide +kernel) rfl), (tb 53 (by decide +kernel) rfl), (tb 804 (by decide +kernel) rfl), by decide, by decide, by decide⟩, (tb 806 (by decide +kernel) rfl), (tb 35 (by decide +kernel) rfl)⟩
theorem ok_O_169 : th_okV rn_O 169 rn_O yn_O_unbind cb_O_unbind 4 none 2 := ⟨⟨(tb 811 (by decide +kernel) rfl), (tb 53 (by decide +kernel) rfl), (tb 808 (by decide +kernel) rfl), by decide, by decide, by decide⟩, (tb 810 (by decide +kernel) rfl), (tb 36 (by decide +kernel) rfl)⟩
theorem ok_O_172 : th_okV rn_O 172 rn_O yn_O_locks cb_O_locks 6 none 4 := ⟨⟨(tb 815 (by decide +kernel) rfl), (tb 53 (by decide +kernel) rfl), (tb 812 (by decide +kernel) rfl), by decide, by decide, by decide⟩, (tb 814 (by decide +kernel) rfl), (tb 37 (by decide +kernel) rfl)⟩
theorem ok_O_176 : th_okV rn_O 176 rn_O yn_O_await cb_O_await 4 none 3 := ⟨⟨(tb 823 (by decide +kernel) rfl), (tb 53 (by decide +kernel) rfl), (tb 820 (by decide +kernel) rfl), by decide, by decide, by decide⟩, (tb 822 (by decide +kernel) rfl), (tb 39 (by decide +kernel) rfl)⟩
theorem ok_O_179 : th_okV rn_O 179 rn_O yn_O_begin cb_O_begin 2 (some .boolean) 1 := ⟨⟨(tb 835 (by decide +kernel) rfl), (tb 53 (by decide +kernel) rfl), (tb 832 (by decide +kernel) rfl), by decide, by decide, by decide⟩, (tb 834 (by decide +kernel) rfl), (tb 42 (by decide +kernel) rfl)⟩
theorem ok_O_182 : th_okV rn_O 182 rn_O yn_O_join cb_O_join 4 none 3 := ⟨⟨(tb 839 (by decide +kernel) rfl), (tb 53 (by decide +kernel) rfl), (tb 836 (by decide +kernel) rfl), by decide, by decide, by decide⟩, (tb 838 (by decide +kernel) rfl), (tb 43 (by decide +kernel) rfl)⟩
theorem ok_O_185 : th_okV rn_O 185 rn_O yn_O_interrupted cb_O_interrupted 2 (some .boolean) 1 := ⟨⟨(tb 843 (by decide +kernel) rfl), (tb 53 (by decide +kernel) rfl), (tb 840 (by decide +kernel) rfl), by decide, by decide, by decide⟩, (tb 842 (by decide +kernel) rfl), (tb 44 (by decide +kernel) rfl)⟩
theorem ok_O_192 : th_okV rn_O 192 rn_O yn_O_ready cb_O_ready 2 (some .int) 0 := ⟨⟨(tb 771 (by decide +kernel) rfl), (tb 53 (by decide +kernel) rfl), (tb 768 (by decide +kernel) rfl), by decide, by decide, by decide⟩, (tb 770 (by decide +kernel) rfl), (tb 26 (by decide +kernel) rfl)⟩
theorem ok_O_196 : th_okV rn_O 196 rn_O yn_O_turn cb_O_turn 4 none 1 := ⟨⟨(tb 775 (by decide +kernel) rfl), (tb 53 (by decide +kernel) rfl), (tb 772 (by decide +kernel) rfl), by decide, by decide, by decide⟩, (tb 774 (by decide +kernel) rfl), (tb 27 (by decide +kernel) rfl)⟩
theorem ok_O_199 : th_okV rn_O 199 rn_O yn_O_act cb_O_act 7 none 4 := ⟨⟨(tb 803 (by decide +kernel) rfl), (tb 53 (by decide +kernel) rfl), (tb 800 (by decide +kernel) rfl), by decide, by decide, by decide⟩, (tb 802 (by decide +kernel) rfl), (tb 34 (by decide +kernel) rfl)⟩
