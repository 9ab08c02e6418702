theorem th_b_12 : (Int8.ofInt 12).toInt32 = 12 := by decide
theorem th_l_12 : (12 : Int32).toInt = 12 := by decide
theorem dc_O_is_0 : decode cb_O_is 0 = .ok (.iload_n 0, 1) := by decide +kernel
theorem dc_O_is_1 : decode cb_O_is 1 = .ok (.iload_n 1, 1) := by decide +kernel
theorem dc_O_is_2 : decode cb_O_is 2 = .ok (.if_icmp .lt 12, 3) := by decide +kernel
theorem dc_O_is_5 : decode cb_O_is 5 = .ok (.iload_n 0, 1) := by decide +kernel
theorem dc_O_is_6 : decode cb_O_is 6 = .ok (.iload_n 2, 1) := by decide +kernel
theorem dc_O_is_7 : decode cb_O_is 7 = .ok (.if_icmp .gt 7, 3) := by decide +kernel
theorem dc_O_is_10 : decode cb_O_is 10 = .ok (.iconst 1, 1) := by decide +kernel
theorem dc_O_is_11 : decode cb_O_is 11 = .ok (.goto 4, 3) := by decide +kernel
theorem dc_O_is_14 : decode cb_O_is 14 = .ok (.iconst 0, 1) := by decide +kernel
theorem dc_O_is_15 : decode cb_O_is 15 = .ok (.ireturn, 1) := by decide +kernel
theorem dc_O_fits_0 : decode cb_O_fits 0 = .ok (.iload_n 0, 1) := by decide +kernel
theorem dc_O_fits_1 : decode cb_O_fits 1 = .ok (.tableswitch 245 0 19 #[95, 95, 102, 95, 95, 126, 126, 133, 157, 126, 126, 181, 188, 181, 212, 95, 212, 220, 95, 95], 95) := by decide +kernel
theorem dc_O_fits_96 : decode cb_O_fits 96 = .ok (.iload_n 1, 1) := by decide +kernel
theorem dc_O_fits_97 : decode cb_O_fits 97 = .ok (.iconst 0, 1) := by decide +kernel
theorem dc_O_fits_98 : decode cb_O_fits 98 = .ok (.iconst 3, 1) := by decide +kernel
theorem dc_O_fits_99 : decode cb_O_fits 99 = .ok (.invokestatic 117, 3) := by decide +kernel
theorem dc_O_fits_102 : decode cb_O_fits 102 = .ok (.ireturn, 1) := by decide +kernel
theorem dc_O_fits_103 : decode cb_O_fits 103 = .ok (.iload_n 1, 1) := by decide +kernel
theorem dc_O_fits_104 : decode cb_O_fits 104 = .ok (.iconst 0, 1) := by decide +kernel
theorem dc_O_fits_105 : decode cb_O_fits 105 = .ok (.iconst 3, 1) := by decide +kernel
theorem dc_O_fits_106 : decode cb_O_fits 106 = .ok (.invokestatic 117, 3) := by decide +kernel
theorem dc_O_fits_109 : decode cb_O_fits 109 = .ok (.ifCond .eq 16, 3) := by decide +kernel
theorem dc_O_fits_112 : decode cb_O_fits 112 = .ok (.iload_n 2, 1) := by decide +kernel
theorem dc_O_fits_113 : decode cb_O_fits 113 = .ok (.iconst 0, 1) := by decide +kernel
theorem dc_O_fits_114 : decode cb_O_fits 114 = .ok (.iconst 3, 1) := by decide +kernel
theorem dc_O_fits_115 : decode cb_O_fits 115 = .ok (.invokestatic 117, 3) := by decide +kernel
theorem dc_O_fits_118 : decode cb_O_fits 118 = .ok (.ifCond .eq 7, 3) := by decide +kernel
theorem dc_O_fits_121 : decode cb_O_fits 121 = .ok (.iconst 1, 1) := by decide +kernel
theorem dc_O_fits_122 : decode cb_O_fits 122 = .ok (.goto 4, 3) := by decide +kernel
theorem dc_O_fits_125 : decode cb_O_fits 125 = .ok (.iconst 0, 1) := by decide +kernel
theorem dc_O_fits_126 : decode cb_O_fits 126 = .ok (.ireturn, 1) := by decide +kernel
theorem dc_O_fits_127 : decode cb_O_fits 127 = .ok (.iload_n 1, 1) := by decide +kernel
theorem dc_O_fits_128 : decode cb_O_fits 128 = .ok (.iconst 0, 1) := by decide +kernel
theorem dc_O_fits_129 : decode cb_O_fits 129 = .ok (.iconst 2, 1) := by decide +kernel
theorem dc_O_fits_130 : decode cb_O_fits 130 = .ok (.invokestatic 117, 3) := by decide +kernel
theorem dc_O_fits_133 : decode cb_O_fits 133 = .ok (.ireturn, 1) := by decide +kernel
theorem dc_O_fits_134 : decode cb_O_fits 134 = .ok (.iload_n 1, 1) := by decide +kernel
theorem dc_O_fits_135 : decode cb_O_fits 135 = .ok (.iconst 0, 1) := by decide +kernel
theorem dc_O_fits_136 : decode cb_O_fits 136 = .ok (.iconst 2, 1) := by decide +kernel
theorem dc_O_fits_137 : decode cb_O_fits 137 = .ok (.invokestatic 117, 3) := by decide +kernel
theorem dc_O_fits_140 : decode cb_O_fits 140 = .ok (.ifCond .eq 16, 3) := by decide +kernel
theorem dc_O_fits_143 : decode cb_O_fits 143 = .ok (.iload_n 2, 1) := by decide +kernel
theorem dc_O_fits_144 : decode cb_O_fits 144 = .ok (.iconst 0, 1) := by decide +kernel
theorem dc_O_fits_145 : decode cb_O_fits 145 = .ok (.iconst 3, 1) := by decide +kernel
theorem dc_O_fits_146 : decode cb_O_fits 146 = .ok (.invokestatic 117, 3) := by decide +kernel
theorem dc_O_fits_149 : decode cb_O_fits 149 = .ok (.ifCond .eq 7, 3) := by decide +kernel
theorem dc_O_fits_152 : decode cb_O_fits 152 = .ok (.iconst 1, 1) := by decide +kernel
theorem dc_O_fits_153 : decode cb_O_fits 153 = .ok (.goto 4, 3) := by decide +kernel
theorem dc_O_fits_156 : decode cb_O_fits 156 = .ok (.iconst 0, 1) := by decide +kernel
theorem dc_O_fits_157 : decode cb_O_fits 157 = .ok (.ireturn, 1) := by decide +kernel
theorem dc_O_fits_158 : decode cb_O_fits 158 = .ok (.iload_n 1, 1) := by decide +kernel
theorem dc_O_fits_159 : decode cb_O_fits 159 = .ok (.iconst 0, 1) := by decide +kernel
theorem dc_O_fits_160 : decode cb_O_fits 160 = .ok (.iconst 2, 1) := by decide +kernel
theorem dc_O_fits_161 : decode cb_O_fits 161 = .ok (.invokestatic 117, 3) := by decide +kernel
theorem dc_O_fits_164 : decode cb_O_fits 164 = .ok (.ifCond .eq 16, 3) := by decide +kernel
theorem dc_O_fits_167 : decode cb_O_fits 167 = .ok (.iload_n 2, 1) := by decide +kernel
theorem dc_O_fits_168 : decode cb_O_fits 168 = .ok (.iconst 0, 1) := by decide +kernel
theorem dc_O_fits_169 : decode cb_O_fits 169 = .ok (.iconst 2, 1) := by decide +kernel
theorem dc_O_fits_170 : decode cb_O_fits 170 = .ok (.invokestatic 117, 3) := by decide +kernel
theorem dc_O_fits_173 : decode cb_O_fits 173 = .ok (.ifCond .eq 7, 3) := by decide +kernel
theorem dc_O_fits_176 : decode cb_O_fits 176 = .ok (.iconst 1, 1) := by decide +kernel
theorem dc_O_fits_177 : decode cb_O_fits 177 = .ok (.goto 4, 3) := by decide +kernel
theorem dc_O_fits_180 : decode cb_O_fits 180 = .ok (.iconst 0, 1) := by decide +kernel
theorem dc_O_fits_181 : decode cb_O_fits 181 = .ok (.ireturn, 1) := by decide +kernel
theorem dc_O_fits_182 : decode cb_O_fits 182 = .ok (.iload_n 1, 1) := by decide +kernel
theorem dc_O_fits_183 : decode cb_O_fits 183 = .ok (.iconst 0, 1) := by decide +kernel
theorem dc_O_fits_184 : decode cb_O_fits 184 = .ok (.iconst 4, 1) := by decide +kernel
theorem dc_O_fits_185 : decode cb_O_fits 185 = .ok (.invokestatic 117, 3) := by decide +kernel
theorem dc_O_fits_188 : decode cb_O_fits 188 = .ok (.ireturn, 1) := by decide +kernel
theorem dc_O_fits_189 : decode cb_O_fits 189 = .ok (.iload_n 1, 1) := by decide +kernel
theorem dc_O_fits_190 : decode cb_O_fits 190 = .ok (.iconst 0, 1) := by decide +kernel
theorem dc_O_fits_191 : decode cb_O_fits 191 = .ok (.iconst 4, 1) := by decide +kernel
theorem dc_O_fits_192 : decode cb_O_fits 192 = .ok (.invokestatic 117, 3) := by decide +kernel
theorem dc_O_fits_195 : decode cb_O_fits 195 = .ok (.ifCond .eq 16, 3) := by decide +kernel
theorem dc_O_fits_198 : decode cb_O_fits 198 = .ok (.iload_n 2, 1) := by decide +kernel
theorem dc_O_fits_199 : decode cb_O_fits 199 = .ok (.iconst 0, 1) := by decide +kernel
theorem dc_O_fits_200 : decode cb_O_fits 200 = .ok (.iconst 3, 1) := by decide +kernel
theorem dc_O_fits_201 : decode cb_O_fits 201 = .ok (.invokestatic 117, 3) := by decide +kernel
theorem dc_O_fits_204 : decode cb_O_fits 204 = .ok (.ifCond .eq 7, 3) := by decide +kernel
theorem dc_O_fits_207 : decode cb_O_fits 207 = .ok (.iconst 1, 1) := by decide +kernel
theorem dc_O_fits_208 : decode cb_O_fits 208 = .ok (.goto 4, 3) := by decide +kernel
theorem dc_O_fits_211 : decode cb_O_fits 211 = .ok (.iconst 0, 1) := by decide +kernel
theorem dc_O_fits_212 : decode cb_O_fits 212 = .ok (.ireturn, 1) := by decide +kernel
theorem dc_O_fits_213 : decode cb_O_fits 213 = .ok (.iload_n 1, 1) := by decide +kernel
theorem dc_O_fits_214 : decode cb_O_fits 214 = .ok (.iconst 0, 1) := by decide +kernel
theorem dc_O_fits_215 : decode cb_O_fits 215 = .ok (.bipush 24, 2) := by decide +kernel
theorem dc_O_fits_217 : decode cb_O_fits 217 = .ok (.invokestatic 117, 3) := by decide +kernel
theorem dc_O_fits_220 : decode cb_O_fits 220 = .ok (.ireturn, 1) := by decide +kernel
theorem dc_O_fits_221 : decode cb_O_fits 221 = .ok (.iload_n 1, 1) := by decide +kernel
theorem dc_O_fits_222 : decode cb_O_fits 222 = .ok (.iconst 0, 1) := by decide +kernel
theorem dc_O_fits_223 : decode cb_O_fits 223 = .ok (.iconst 3, 1) := by decide +kernel
theorem dc_O_fits_224 : decode cb_O_fits 224 = .ok (.invokestatic 117, 3) := by decide +kernel
theorem dc_O_fits_227 : decode cb_O_fits 227 = .ok (.ifCond .eq 17, 3) := by decide +kernel
theorem dc_O_fits_230 : decode cb_O_fits 230 = .ok (.iload_n 2, 1) := by decide +kernel
theorem dc_O_fits_231 : decode cb_O_fits 231 = .ok (.iconst 0, 1) := by decide +kernel
theorem dc_O_fits_232 : decode cb_O_fits 232 = .ok (.bipush 24, 2) := by decide +kernel
theorem dc_O_fits_234 : decode cb_O_fits 234 = .ok (.invokestatic 117, 3) := by decide +kernel
theorem dc_O_fits_237 : decode cb_O_fits 237 = .ok (.ifCond .eq 7, 3) := by decide +kernel
theorem dc_O_fits_240 : decode cb_O_fits 240 = .ok (.iconst 1, 1) := by decide +kernel
theorem dc_O_fits_241 : decode cb_O_fits 241 = .ok (.goto 4, 3) := by decide +kernel
theorem dc_O_fits_244 : decode cb_O_fits 244 = .ok (.iconst 0, 1) := by decide +kernel
theorem dc_O_fits_245 : decode cb_O_fits 245 = .ok (.ireturn, 1) := by decide +kernel
theorem dc_O_fits_246 : decode cb_O_fits 246 = .ok (.iload_n 0, 1) := by decide +kernel
theorem dc_O_fits_247 : decode cb_O_fits 247 = .ok (.bipush 20, 2) := by decide +kernel
theorem dc_O_fits_249 : decode cb_O_fits 249 = .ok (.if_icmp .ne 7, 3) := by decide +kernel
theorem dc_O_fits_252 : decode cb_O_fits 252 = .ok (.iconst 1, 1) := by decide +kernel
theorem dc_O_fits_253 : decode cb_O_fits 253 = .ok (.goto 4, 3) := by decide +kernel
theorem dc_O_fits_256 : decode cb_O_fits 256 = .ok (.iconst 0, 1) := by decide +kernel
theorem dc_O_fits_257 : decode cb_O_fits 257 = .ok (.ireturn, 1) := by decide +kernel
theorem dc_O_refuse_0 : decode cb_O_refuse 0 = .ok (.aload_n 0, 1) := by decide +kernel
theorem dc_O_refuse_1 : decode cb_O_refuse 1 = .ok (.iload_n 1, 1) := by decide +kernel
theorem dc_O_refuse_2 : decode cb_O_refuse 2 = .ok (.putfield 114, 3) := by decide +kernel
theorem dc_O_refuse_5 : decode cb_O_refuse 5 = .ok (.iconst 0, 1) := by decide +kernel
theorem dc_O_refuse_6 : decode cb_O_refuse 6 = .ok (.ireturn, 1) := by decide +kernel
theorem dc_O_thrown_0 : decode cb_O_thrown 0 = .ok (.aload_n 0, 1) := by decide +kernel
theorem dc_O_thrown_1 : decode cb_O_thrown 1 = .ok (.getfield 114, 3) := by decide +kernel
theorem dc_O_thrown_4 : decode cb_O_thrown 4 = .ok (.ireturn, 1) := by decide +kernel
theorem dc_O_alive_0 : decode cb_O_alive 0 = .ok (.aload_n 0, 1) := by decide +kernel
theorem dc_O_alive_1 : decode cb_O_alive 1 = .ok (.getfield 43, 3) := by decide +kernel
theorem dc_O_alive_4 : decode cb_O_alive 4 = .ok (.iload_n 1, 1) := by decide +kernel
theorem dc_O_alive_5 : decode cb_O_alive 5 = .ok (.iaload, 1) := by decide +kernel
theorem dc_O_alive_6 : decode cb_O_alive 6 = .ok (.ifCond .eq 17, 3) := by decide +kernel
theorem dc_O_alive_9 : decode cb_O_alive 9 = .ok (.aload_n 0, 1) := by decide +kernel
theorem dc_O_alive_10 : decode cb_O_alive 10 = .ok (.getfield 43, 3) := by decide +kernel
theorem dc_O_alive_13 : decode cb_O_alive 13 = .ok (.iload_n 1, 1) := by decide +kernel
theorem dc_O_alive_14 : decode cb_O_alive 14 = .ok (.iaload, 1) := by decide +kernel
theorem dc_O_alive_15 : decode cb_O_alive 15 = .ok (.iconst 5, 1) := by decide +kernel
theorem dc_O_alive_16 : decode cb_O_alive 16 = .ok (.if_icmp .eq 7, 3) := by decide +kernel
theorem dc_O_alive_19 : decode cb_O_alive 19 = .ok (.iconst 1, 1) := by decide +kernel
theorem dc_O_alive_20 : decode cb_O_alive 20 = .ok (.goto 4, 3) := by decide +kernel
theorem dc_O_alive_23 : decode cb_O_alive 23 = .ok (.iconst 0, 1) := by decide +kernel
theorem dc_O_alive_24 : decode cb_O_alive 24 = .ok (.ireturn, 1) := by decide +kernel
theorem dc_O_bound_0 : decode cb_O_bound 0 = .ok (.aload_n 0, 1) := by decide +kernel
theorem dc_O_bound_1 : decode cb_O_bound 1 = .ok (.getfield 31, 3) := by decide +kernel
theorem dc_O_bound_4 : decode cb_O_bound 4 = .ok (.iload_n 1, 1) := by decide +kernel
theorem dc_O_bound_5 : decode cb_O_bound 5 = .ok (.iaload, 1) := by decide +kernel
theorem dc_O_bound_6 : decode cb_O_bound 6 = .ok (.iconst 1, 1) := by decide +kernel
theorem dc_O_bound_7 : decode cb_O_bound 7 = .ok (.isub, 1) := by decide +kernel
theorem dc_O_bound_8 : decode cb_O_bound 8 = .ok (.istore_n 3, 1) := by decide +kernel
theorem dc_O_bound_9 : decode cb_O_bound 9 = .ok (.iload_n 3, 1) := by decide +kernel
theorem dc_O_bound_10 : decode cb_O_bound 10 = .ok (.ifCond .lt 31, 3) := by decide +kernel
theorem dc_O_bound_13 : decode cb_O_bound 13 = .ok (.aload_n 0, 1) := by decide +kernel
theorem dc_O_bound_14 : decode cb_O_bound 14 = .ok (.getfield 25, 3) := by decide +kernel
theorem dc_O_bound_17 : decode cb_O_bound 17 = .ok (.bipush 12, 2) := by decide +kernel
theorem dc_O_bound_19 : decode cb_O_bound 19 = .ok (.iload_n 1, 1) := by decide +kernel
theorem dc_O_bound_20 : decode cb_O_bound 20 = .ok (.imul, 1) := by decide +kernel
theorem dc_O_bound_21 : decode cb_O_bound 21 = .ok (.iload_n 3, 1) := by decide +kernel
theorem dc_O_bound_22 : decode cb_O_bound 22 = .ok (.iadd, 1) := by decide +kernel
theorem dc_O_bound_23 : decode cb_O_bound 23 = .ok (.iaload, 1) := by decide +kernel
theorem dc_O_bound_24 : decode cb_O_bound 24 = .ok (.iload_n 2, 1) := by decide +kernel
theorem dc_O_bound_25 : decode cb_O_bound 25 = .ok (.if_icmp .ne 10, 3) := by decide +kernel
theorem dc_O_bound_28 : decode cb_O_bound 28 = .ok (.bipush 12, 2) := by decide +kernel
theorem dc_O_bound_30 : decode cb_O_bound 30 = .ok (.iload_n 1, 1) := by decide +kernel
theorem dc_O_bound_31 : decode cb_O_bound 31 = .ok (.imul, 1) := by decide +kernel
theorem dc_O_bound_32 : decode cb_O_bound 32 = .ok (.iload_n 3, 1) := by decide +kernel
theorem dc_O_bound_33 : decode cb_O_bound 33 = .ok (.iadd, 1) := by decide +kernel
theorem dc_O_bound_34 : decode cb_O_bound 34 = .ok (.ireturn, 1) := by decide +kernel
theorem dc_O_bound_35 : decode cb_O_bound 35 = .ok (.iinc 3 (-1), 3) := by decide +kernel
theorem dc_O_bound_38 : decode cb_O_bound 38 = .ok (.goto (-29), 3) := by decide +kernel
theorem dc_O_bound_41 : decode cb_O_bound 41 = .ok (.iconst (-1), 1) := by decide +kernel
theorem dc_O_bound_42 : decode cb_O_bound 42 = .ok (.ireturn, 1) := by decide +kernel
theorem dc_O_get_0 : decode cb_O_get 0 = .ok (.aload_n 0, 1) := by decide +kernel
theorem dc_O_get_1 : decode cb_O_get 1 = .ok (.iload_n 1, 1) := by decide +kernel
theorem dc_O_get_2 : decode cb_O_get 2 = .ok (.iload_n 2, 1) := by decide +kernel
theorem dc_O_get_3 : decode cb_O_get 3 = .ok (.invokevirtual 132, 3) := by decide +kernel
theorem dc_O_get_6 : decode cb_O_get 6 = .ok (.istore_n 3, 1) := by decide +kernel
theorem dc_O_get_7 : decode cb_O_get 7 = .ok (.iload_n 3, 1) := by decide +kernel
theorem dc_O_get_8 : decode cb_O_get 8 = .ok (.ifCond .ge 12, 3) := by decide +kernel
theorem dc_O_get_11 : decode cb_O_get 11 = .ok (.aload_n 0, 1) := by decide +kernel
theorem dc_O_get_12 : decode cb_O_get 12 = .ok (.getfield 22, 3) := by decide +kernel
theorem dc_O_get_15 : decode cb_O_get 15 = .ok (.iload_n 2, 1) := by decide +kernel
theorem dc_O_get_16 : decode cb_O_get 16 = .ok (.iaload, 1) := by decide +kernel
theorem dc_O_get_17 : decode cb_O_get 17 = .ok (.goto 9, 3) := by decide +kernel
theorem dc_O_get_20 : decode cb_O_get 20 = .ok (.aload_n 0, 1) := by decide +kernel
theorem dc_O_get_21 : decode cb_O_get 21 = .ok (.getfield 28, 3) := by decide +kernel
theorem dc_O_get_24 : decode cb_O_get 24 = .ok (.iload_n 3, 1) := by decide +kernel
theorem dc_O_get_25 : decode cb_O_get 25 = .ok (.iaload, 1) := by decide +kernel
theorem dc_O_get_26 : decode cb_O_get 26 = .ok (.ireturn, 1) := by decide +kernel
theorem dc_O_put_0 : decode cb_O_put 0 = .ok (.aload_n 0, 1) := by decide +kernel
theorem dc_O_put_1 : decode cb_O_put 1 = .ok (.iload_n 1, 1) := by decide +kernel
theorem dc_O_put_2 : decode cb_O_put 2 = .ok (.iload_n 2, 1) := by decide +kernel
theorem dc_O_put_3 : decode cb_O_put 3 = .ok (.invokevirtual 132, 3) := by decide +kernel
theorem dc_O_put_6 : decode cb_O_put 6 = .ok (.istore 4, 2) := by decide +kernel
theorem dc_O_put_8 : decode cb_O_put 8 = .ok (.iload 4, 2) := by decide +kernel
theorem dc_O_put_10 : decode cb_O_put 10 = .ok (.ifCond .ge 13, 3) := by decide +kernel
theorem dc_O_put_13 : decode cb_O_put 13 = .ok (.aload_n 0, 1) := by decide +kernel
theorem dc_O_put_14 : decode cb_O_put 14 = .ok (.getfield 22, 3) := by decide +kernel
theorem dc_O_put_17 : decode cb_O_put 17 = .ok (.iload_n 2, 1) := by decide +kernel
theorem dc_O_put_18 : decode cb_O_put 18 = .ok (.iload_n 3, 1) := by decide +kernel
theorem dc_O_put_19 : decode cb_O_put 19 = .ok (.iastore, 1) := by decide +kernel
theorem dc_O_put_20 : decode cb_O_put 20 = .ok (.goto 11, 3) := by decide +kernel
theorem dc_O_put_23 : decode cb_O_put 23 = .ok (.aload_n 0, 1) := by decide +kernel
theorem dc_O_put_24 : decode cb_O_put 24 = .ok (.getfield 28, 3) := by decide +kernel
theorem dc_O_put_27 : decode cb_O_put 27 = .ok (.iload 4, 2) := by decide +kernel
theorem dc_O_put_29 : decode cb_O_put 29 = .ok (.iload_n 3, 1) := by decide +kernel
theorem dc_O_put_30 : decode cb_O_put 30 = .ok (.iastore, 1) := by decide +kernel
theorem dc_O_put_31 : decode cb_O_put 31 = .ok (.return_, 1) := by decide +kernel
theorem fd_O_22 : th_fd rn_O 22 tf_O 36 4 := ⟨by decide, (tb 632 (by decide +kernel) rfl)⟩
theorem fd_O_25 : th_fd rn_O 25 tf_O 36 5 := ⟨by decide, (tb 633 (by decide +kernel) rfl)⟩
theorem fd_O_28 : th_fd rn_O 28 tf_O 36 6 := ⟨by decide, (tb 634 (by decide +kernel) rfl)⟩
theorem fd_O_31 : th_fd rn_O 31 tf_O 36 7 := ⟨by decide, (tb 635 (by decide +kernel) rfl)⟩
theorem fd_O_43 : th_fd rn_O 43 tf_O 36 11 := ⟨by decide, (tb 639 (by decide +kernel) rfl)⟩
theorem fd_O_114 : th_fd rn_O 114 tf_O 36 34 := ⟨by decide, (tb 662 (by decide +kernel) rfl)⟩
theorem ok_O_117 : th_okS rn_O 117 yn_O_is cb_O_is 3 (some .boolean) 3 := ⟨⟨(tb 748 (by decide +kernel) rfl), (tb 53 (by decide +kernel) rfl), (tb 746 (by decide +kernel) rfl), by decide, by decide, by decide⟩, (tb 747 (by decide +kernel) rfl)⟩
theorem ok_O_132 : th_okV rn_O 132 rn_O yn_O_bound cb_O_bound 4 (some .int) 2 := ⟨⟨(tb 791 (by decide +kernel) rfl), (tb 53 (by decide +kernel) rfl), (tb 788 (by decide +kernel) rfl), by decide, by decide, by decide⟩, (tb 790 (by decide +kernel) rfl), (tb 31 (by decide +kernel) rfl)⟩
