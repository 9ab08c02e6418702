theorem cl_16 : th_cl 16 0 rn_M tf_M 3 ft_M := ⟨rfl, rfl, by decide +kernel, ft_M_ok, nm_M⟩
theorem cl_11 : th_cl 11 1 rn_Q tf_Q 3 ft_Q := ⟨rfl, rfl, by decide +kernel, ft_Q_ok, nm_Q⟩
theorem cl_7 : th_cl 7 2 rn_P tf_P 4 ft_P := ⟨rfl, rfl, by decide +kernel, ft_P_ok, nm_P⟩
theorem cl_14 : th_cl 14 3 rn_R tf_R 2 ft_R := ⟨rfl, rfl, by decide +kernel, ft_R_ok, nm_R⟩
theorem cl_6 : th_cl 6 4 rn_S tf_S 18 ft_S := ⟨rfl, rfl, by decide +kernel, ft_S_ok, nm_S⟩
theorem cl_0 : th_cl 0 5 rn_H tf_H 12 ft_H := ⟨rfl, rfl, by decide +kernel, ft_H_ok, nm_H⟩
theorem cl_20 : th_cl 20 6 rn_O tf_O 36 ft_O := ⟨rfl, rfl, by decide +kernel, ft_O_ok, nm_O⟩
theorem dc_S_isAlive_0 : decode cb_S_isAlive 0 = .ok (.aload_n 0, 1) := by decide +kernel
theorem dc_S_isAlive_1 : decode cb_S_isAlive 1 = .ok (.getfield 37, 3) := by decide +kernel
theorem dc_S_isAlive_4 : decode cb_S_isAlive 4 = .ok (.ifCond .eq 15, 3) := by decide +kernel
theorem dc_S_isAlive_7 : decode cb_S_isAlive 7 = .ok (.aload_n 0, 1) := by decide +kernel
theorem dc_S_isAlive_8 : decode cb_S_isAlive 8 = .ok (.getfield 37, 3) := by decide +kernel
theorem dc_S_isAlive_11 : decode cb_S_isAlive 11 = .ok (.iconst 5, 1) := by decide +kernel
theorem dc_S_isAlive_12 : decode cb_S_isAlive 12 = .ok (.if_icmp .eq 7, 3) := by decide +kernel
theorem dc_S_isAlive_15 : decode cb_S_isAlive 15 = .ok (.iconst 1, 1) := by decide +kernel
theorem dc_S_isAlive_16 : decode cb_S_isAlive 16 = .ok (.goto 4, 3) := by decide +kernel
theorem dc_S_isAlive_19 : decode cb_S_isAlive 19 = .ok (.iconst 0, 1) := by decide +kernel
theorem dc_S_isAlive_20 : decode cb_S_isAlive 20 = .ok (.ireturn, 1) := by decide +kernel
theorem dc_S_forgetInterrupt_0 : decode cb_S_forgetInterrupt 0 = .ok (.aload_n 0, 1) := by decide +kernel
theorem dc_S_forgetInterrupt_1 : decode cb_S_forgetInterrupt 1 = .ok (.iconst 0, 1) := by decide +kernel
theorem dc_S_forgetInterrupt_2 : decode cb_S_forgetInterrupt 2 = .ok (.putfield 65, 3) := by decide +kernel
theorem dc_S_forgetInterrupt_5 : decode cb_S_forgetInterrupt 5 = .ok (.aload_n 0, 1) := by decide +kernel
theorem dc_S_forgetInterrupt_6 : decode cb_S_forgetInterrupt 6 = .ok (.iconst 0, 1) := by decide +kernel
theorem dc_S_forgetInterrupt_7 : decode cb_S_forgetInterrupt 7 = .ok (.putfield 69, 3) := by decide +kernel
theorem dc_S_forgetInterrupt_10 : decode cb_S_forgetInterrupt 10 = .ok (.return_, 1) := by decide +kernel
theorem dc_S_forgetAll_0 : decode cb_S_forgetAll 0 = .ok (.aload_n 0, 1) := by decide +kernel
theorem dc_S_forgetAll_1 : decode cb_S_forgetAll 1 = .ok (.getfield 23, 3) := by decide +kernel
theorem dc_S_forgetAll_4 : decode cb_S_forgetAll 4 = .ok (.iconst 0, 1) := by decide +kernel
theorem dc_S_forgetAll_5 : decode cb_S_forgetAll 5 = .ok (.putfield 59, 3) := by decide +kernel
theorem dc_S_forgetAll_8 : decode cb_S_forgetAll 8 = .ok (.aload_n 0, 1) := by decide +kernel
theorem dc_S_forgetAll_9 : decode cb_S_forgetAll 9 = .ok (.getfield 27, 3) := by decide +kernel
theorem dc_S_forgetAll_12 : decode cb_S_forgetAll 12 = .ok (.iconst 0, 1) := by decide +kernel
theorem dc_S_forgetAll_13 : decode cb_S_forgetAll 13 = .ok (.putfield 59, 3) := by decide +kernel
theorem dc_S_forgetAll_16 : decode cb_S_forgetAll 16 = .ok (.aload_n 0, 1) := by decide +kernel
theorem dc_S_forgetAll_17 : decode cb_S_forgetAll 17 = .ok (.bipush 24, 2) := by decide +kernel
theorem dc_S_forgetAll_19 : decode cb_S_forgetAll 19 = .ok (.putfield 41, 3) := by decide +kernel
theorem dc_S_forgetAll_22 : decode cb_S_forgetAll 22 = .ok (.aload_n 0, 1) := by decide +kernel
theorem dc_S_forgetAll_23 : decode cb_S_forgetAll 23 = .ok (.invokevirtual 62, 3) := by decide +kernel
theorem dc_S_forgetAll_26 : decode cb_S_forgetAll 26 = .ok (.return_, 1) := by decide +kernel
theorem dc_S_beginAnew_0 : decode cb_S_beginAnew 0 = .ok (.aload_n 0, 1) := by decide +kernel
theorem dc_S_beginAnew_1 : decode cb_S_beginAnew 1 = .ok (.invokevirtual 47, 3) := by decide +kernel
theorem dc_S_beginAnew_4 : decode cb_S_beginAnew 4 = .ok (.aload_n 0, 1) := by decide +kernel
theorem dc_S_beginAnew_5 : decode cb_S_beginAnew 5 = .ok (.iconst 1, 1) := by decide +kernel
theorem dc_S_beginAnew_6 : decode cb_S_beginAnew 6 = .ok (.putfield 37, 3) := by decide +kernel
theorem dc_S_beginAnew_9 : decode cb_S_beginAnew 9 = .ok (.aload_n 0, 1) := by decide +kernel
theorem dc_S_beginAnew_10 : decode cb_S_beginAnew 10 = .ok (.iconst 0, 1) := by decide +kernel
theorem dc_S_beginAnew_11 : decode cb_S_beginAnew 11 = .ok (.putfield 50, 3) := by decide +kernel
theorem dc_S_beginAnew_14 : decode cb_S_beginAnew 14 = .ok (.aload_n 0, 1) := by decide +kernel
theorem dc_S_beginAnew_15 : decode cb_S_beginAnew 15 = .ok (.iconst 0, 1) := by decide +kernel
theorem dc_S_beginAnew_16 : decode cb_S_beginAnew 16 = .ok (.putfield 53, 3) := by decide +kernel
theorem dc_S_beginAnew_19 : decode cb_S_beginAnew 19 = .ok (.aload_n 0, 1) := by decide +kernel
theorem dc_S_beginAnew_20 : decode cb_S_beginAnew 20 = .ok (.dup, 1) := by decide +kernel
theorem dc_S_beginAnew_21 : decode cb_S_beginAnew 21 = .ok (.getfield 56, 3) := by decide +kernel
theorem dc_S_beginAnew_24 : decode cb_S_beginAnew 24 = .ok (.iconst 1, 1) := by decide +kernel
theorem dc_S_beginAnew_25 : decode cb_S_beginAnew 25 = .ok (.iadd, 1) := by decide +kernel
theorem dc_S_beginAnew_26 : decode cb_S_beginAnew 26 = .ok (.putfield 56, 3) := by decide +kernel
theorem dc_S_beginAnew_29 : decode cb_S_beginAnew 29 = .ok (.return_, 1) := by decide +kernel
theorem dc_P_append_0 : decode cb_P_append 0 = .ok (.aload_n 0, 1) := by decide +kernel
theorem dc_P_append_1 : decode cb_P_append 1 = .ok (.getfield 21, 3) := by decide +kernel
theorem dc_P_append_4 : decode cb_P_append 4 = .ok (.bipush 24, 2) := by decide +kernel
theorem dc_P_append_6 : decode cb_P_append 6 = .ok (.if_icmp .ge 43, 3) := by decide +kernel
theorem dc_P_append_9 : decode cb_P_append 9 = .ok (.aload_n 0, 1) := by decide +kernel
theorem dc_P_append_10 : decode cb_P_append 10 = .ok (.getfield 9, 3) := by decide +kernel
theorem dc_P_append_13 : decode cb_P_append 13 = .ok (.aload_n 0, 1) := by decide +kernel
theorem dc_P_append_14 : decode cb_P_append 14 = .ok (.getfield 21, 3) := by decide +kernel
theorem dc_P_append_17 : decode cb_P_append 17 = .ok (.iload_n 1, 1) := by decide +kernel
theorem dc_P_append_18 : decode cb_P_append 18 = .ok (.iastore, 1) := by decide +kernel
theorem dc_P_append_19 : decode cb_P_append 19 = .ok (.aload_n 0, 1) := by decide +kernel
theorem dc_P_append_20 : decode cb_P_append 20 = .ok (.getfield 15, 3) := by decide +kernel
theorem dc_P_append_23 : decode cb_P_append 23 = .ok (.aload_n 0, 1) := by decide +kernel
theorem dc_P_append_24 : decode cb_P_append 24 = .ok (.getfield 21, 3) := by decide +kernel
theorem dc_P_append_27 : decode cb_P_append 27 = .ok (.iload_n 2, 1) := by decide +kernel
theorem dc_P_append_28 : decode cb_P_append 28 = .ok (.iastore, 1) := by decide +kernel
theorem dc_P_append_29 : decode cb_P_append 29 = .ok (.aload_n 0, 1) := by decide +kernel
theorem dc_P_append_30 : decode cb_P_append 30 = .ok (.getfield 18, 3) := by decide +kernel
theorem dc_P_append_33 : decode cb_P_append 33 = .ok (.aload_n 0, 1) := by decide +kernel
theorem dc_P_append_34 : decode cb_P_append 34 = .ok (.getfield 21, 3) := by decide +kernel
theorem dc_P_append_37 : decode cb_P_append 37 = .ok (.iload_n 3, 1) := by decide +kernel
theorem dc_P_append_38 : decode cb_P_append 38 = .ok (.iastore, 1) := by decide +kernel
theorem dc_P_append_39 : decode cb_P_append 39 = .ok (.aload_n 0, 1) := by decide +kernel
theorem dc_P_append_40 : decode cb_P_append 40 = .ok (.dup, 1) := by decide +kernel
theorem dc_P_append_41 : decode cb_P_append 41 = .ok (.getfield 21, 3) := by decide +kernel
theorem dc_P_append_44 : decode cb_P_append 44 = .ok (.iconst 1, 1) := by decide +kernel
theorem dc_P_append_45 : decode cb_P_append 45 = .ok (.iadd, 1) := by decide +kernel
theorem dc_P_append_46 : decode cb_P_append 46 = .ok (.putfield 21, 3) := by decide +kernel
theorem dc_P_append_49 : decode cb_P_append 49 = .ok (.return_, 1) := by decide +kernel
theorem dc_Q_latest_0 : decode cb_Q_latest 0 = .ok (.aload_n 0, 1) := by decide +kernel
theorem dc_Q_latest_1 : decode cb_Q_latest 1 = .ok (.getfield 18, 3) := by decide +kernel
theorem dc_Q_latest_4 : decode cb_Q_latest 4 = .ok (.iconst 1, 1) := by decide +kernel
theorem dc_Q_latest_5 : decode cb_Q_latest 5 = .ok (.isub, 1) := by decide +kernel
theorem dc_Q_latest_6 : decode cb_Q_latest 6 = .ok (.istore_n 2, 1) := by decide +kernel
theorem dc_Q_latest_7 : decode cb_Q_latest 7 = .ok (.iload_n 2, 1) := by decide +kernel
theorem dc_Q_latest_8 : decode cb_Q_latest 8 = .ok (.ifCond .lt 21, 3) := by decide +kernel
theorem dc_Q_latest_11 : decode cb_Q_latest 11 = .ok (.aload_n 0, 1) := by decide +kernel
theorem dc_Q_latest_12 : decode cb_Q_latest 12 = .ok (.getfield 9, 3) := by decide +kernel
theorem dc_Q_latest_15 : decode cb_Q_latest 15 = .ok (.iload_n 2, 1) := by decide +kernel
theorem dc_Q_latest_16 : decode cb_Q_latest 16 = .ok (.iaload, 1) := by decide +kernel
theorem dc_Q_latest_17 : decode cb_Q_latest 17 = .ok (.iload_n 1, 1) := by decide +kernel
theorem dc_Q_latest_18 : decode cb_Q_latest 18 = .ok (.if_icmp .ne 5, 3) := by decide +kernel
theorem dc_Q_latest_21 : decode cb_Q_latest 21 = .ok (.iload_n 2, 1) := by decide +kernel
theorem dc_Q_latest_22 : decode cb_Q_latest 22 = .ok (.ireturn, 1) := by decide +kernel
theorem dc_Q_latest_23 : decode cb_Q_latest 23 = .ok (.iinc 2 (-1), 3) := by decide +kernel
theorem dc_Q_latest_26 : decode cb_Q_latest 26 = .ok (.goto (-19), 3) := by decide +kernel
theorem dc_Q_latest_29 : decode cb_Q_latest 29 = .ok (.iconst (-1), 1) := by decide +kernel
theorem dc_Q_latest_30 : decode cb_Q_latest 30 = .ok (.ireturn, 1) := by decide +kernel
theorem dc_H_requireBetween_0 : decode cb_H_requireBetween 0 = .ok (.iload_n 0, 1) := by decide +kernel
theorem dc_H_requireBetween_1 : decode cb_H_requireBetween 1 = .ok (.iload_n 1, 1) := by decide +kernel
theorem dc_H_requireBetween_2 : decode cb_H_requireBetween 2 = .ok (.if_icmp .lt 8, 3) := by decide +kernel
theorem dc_H_requireBetween_5 : decode cb_H_requireBetween 5 = .ok (.iload_n 0, 1) := by decide +kernel
theorem dc_H_requireBetween_6 : decode cb_H_requireBetween 6 = .ok (.iload_n 2, 1) := by decide +kernel
theorem dc_H_requireBetween_7 : decode cb_H_requireBetween 7 = .ok (.if_icmp .le 11, 3) := by decide +kernel
theorem dc_H_requireBetween_10 : decode cb_H_requireBetween 10 = .ok (.new 143, 3) := by decide +kernel
theorem dc_H_requireBetween_13 : decode cb_H_requireBetween 13 = .ok (.dup, 1) := by decide +kernel
theorem dc_H_requireBetween_14 : decode cb_H_requireBetween 14 = .ok (.invokespecial 145, 3) := by decide +kernel
theorem dc_H_requireBetween_17 : decode cb_H_requireBetween 17 = .ok (.athrow, 1) := by decide +kernel
theorem dc_H_requireBetween_18 : decode cb_H_requireBetween 18 = .ok (.return_, 1) := by decide +kernel
theorem dc_H_requireBelow_0 : decode cb_H_requireBelow 0 = .ok (.iload_n 0, 1) := by decide +kernel
theorem dc_H_requireBelow_1 : decode cb_H_requireBelow 1 = .ok (.iconst 0, 1) := by decide +kernel
theorem dc_H_requireBelow_2 : decode cb_H_requireBelow 2 = .ok (.iload_n 1, 1) := by decide +kernel
theorem dc_H_requireBelow_3 : decode cb_H_requireBelow 3 = .ok (.iconst 1, 1) := by decide +kernel
theorem dc_H_requireBelow_4 : decode cb_H_requireBelow 4 = .ok (.isub, 1) := by decide +kernel
theorem dc_H_requireBelow_5 : decode cb_H_requireBelow 5 = .ok (.invokestatic 86, 3) := by decide +kernel
theorem dc_H_requireBelow_8 : decode cb_H_requireBelow 8 = .ok (.return_, 1) := by decide +kernel
theorem dc_H_requireOperand_0 : decode cb_H_requireOperand 0 = .ok (.iload_n 1, 1) := by decide +kernel
theorem dc_H_requireOperand_1 : decode cb_H_requireOperand 1 = .ok (.ifCond .le 8, 3) := by decide +kernel
theorem dc_H_requireOperand_4 : decode cb_H_requireOperand 4 = .ok (.iload_n 0, 1) := by decide +kernel
theorem dc_H_requireOperand_5 : decode cb_H_requireOperand 5 = .ok (.iload_n 1, 1) := by decide +kernel
theorem dc_H_requireOperand_6 : decode cb_H_requireOperand 6 = .ok (.invokestatic 46, 3) := by decide +kernel
theorem dc_H_requireOperand_9 : decode cb_H_requireOperand 9 = .ok (.return_, 1) := by decide +kernel
theorem dc_H_requireNotAlive_0 : decode cb_H_requireNotAlive 0 = .ok (.aload_n 0, 1) := by decide +kernel
theorem dc_H_requireNotAlive_1 : decode cb_H_requireNotAlive 1 = .ok (.invokevirtual 79, 3) := by decide +kernel
theorem dc_H_requireNotAlive_4 : decode cb_H_requireNotAlive 4 = .ok (.ifCond .eq 11, 3) := by decide +kernel
theorem dc_H_requireNotAlive_7 : decode cb_H_requireNotAlive 7 = .ok (.new 173, 3) := by decide +kernel
theorem dc_H_requireNotAlive_10 : decode cb_H_requireNotAlive 10 = .ok (.dup, 1) := by decide +kernel
theorem dc_H_requireNotAlive_11 : decode cb_H_requireNotAlive 11 = .ok (.invokespecial 175, 3) := by decide +kernel
theorem dc_H_requireNotAlive_14 : decode cb_H_requireNotAlive 14 = .ok (.athrow, 1) := by decide +kernel
theorem dc_H_requireNotAlive_15 : decode cb_H_requireNotAlive 15 = .ok (.return_, 1) := by decide +kernel
theorem th_b_24 : (Int8.ofInt 24).toInt32 = 24 := by decide
theorem th_c_m1 : Int32.ofInt (-1) = -1 := by decide
theorem th_c_0 : Int32.ofInt 0 = 0 := by decide
theorem th_c_1 : Int32.ofInt 1 = 1 := by decide
theorem th_c_5 : Int32.ofInt 5 = 5 := by decide
theorem th_l_m1 : (-1 : Int32).toInt = -1 := by decide
theorem th_l_0 : (0 : Int32).toInt = 0 := by decide
theorem th_l_1 : (1 : Int32).toInt = 1 := by decide
theorem th_l_5 : (5 : Int32).toInt = 5 := by decide
theorem th_l_24 : (24 : Int32).toInt = 24 := by decide
theorem fd_Q_9 : th_fd rn_Q 9 tf_Q 3 0 := ⟨by decide, (tb 105 (by decide +kernel) rfl)⟩
theorem fd_Q_18 : th_fd rn_Q 18 tf_Q 3 2 := ⟨by decide, (tb 109 (by decide +kernel) rfl)⟩
theorem fd_P_9 : th_fd rn_P 9 tf_P 4 0 := ⟨by decide, (tb 81 (by decide +kernel) rfl)⟩
theorem fd_P_15 : th_fd rn_P 15 tf_P 4 1 := ⟨by decide, (tb 83 (by decide +kernel) rfl)⟩
theorem fd_P_18 : th_fd rn_P 18 tf_P 4 2 := ⟨by decide, (tb 85 (by decide +kernel) rfl)⟩
theorem fd_P_21 : th_fd rn_P 21 tf_P 4 3 := ⟨by decide, (tb 87 (by decide +kernel) rfl)⟩
theorem fd_S_23 : th_fd rn_S 23 tf_S 18 2 := ⟨by decide, (tb 137 (by decide +kernel) rfl)⟩
theorem fd_S_27 : th_fd rn_S 27 tf_S 18 3 := ⟨by decide, (tb 139 (by decide +kernel) rfl)⟩
theorem fd_S_37 : th_fd rn_S 37 tf_S 18 5 := ⟨by decide, (tb 143 (by decide +kernel) rfl)⟩
theorem fd_S_41 : th_fd rn_S 41 tf_S 18 8 := ⟨by decide, (tb 148 (by decide +kernel) rfl)⟩
theorem fd_S_50 : th_fd rn_S 50 tf_S 18 6 := ⟨by decide, (tb 145 (by decide +kernel) rfl)⟩
theorem fd_S_53 : th_fd rn_S 53 tf_S 18 9 := ⟨by decide, (tb 150 (by decide +kernel) rfl)⟩
theorem fd_S_56 : th_fd rn_S 56 tf_S 18 10 := ⟨by decide, (tb 152 (by decide +kernel) rfl)⟩
theorem fd_S_59 : th_fd rn_S 59 tf_Q 3 2 := ⟨by decide, (tb 110 (by decide +kernel) rfl)⟩
theorem fd_S_65 : th_fd rn_S 65 tf_S 18 11 := ⟨by decide, (tb 154 (by decide +kernel) rfl)⟩
theorem fd_S_69 : th_fd rn_S 69 tf_S 18 12 := ⟨by decide, (tb 156 (by decide +kernel) rfl)⟩
theorem ok_H_46 : th_okS rn_H 46 yn_H_requireBelow cb_H_requireBelow 2 none 2 := ⟨⟨(tb 274 (by decide +kernel) rfl), (tb 47 (by decide +kernel) rfl), (tb 272 (by decide +kernel) rfl), by decide, by decide, by decide⟩, (tb 273 (by decide +kernel) rfl)⟩
theorem ok_H_79 : th_okV rn_H 79 rn_S yn_S_isAlive cb_S_isAlive 1 (some .boolean) 0 := ⟨⟨(tb 354 (by decide +kernel) rfl), (tb 48 (by decide +kernel) rfl), (tb 351 (by decide +kernel) rfl), by decide, by decide, by decide⟩, (tb 352 (by decide +kernel) rfl), (tb 353 (by decide +kernel) rfl)⟩
theorem ok_H_86 : th_okS rn_H 86 yn_H_requireBetween cb_H_requireBetween 3 none 3 := ⟨⟨(tb 277 (by decide +kernel) rfl), (tb 47 (by decide +kernel) rfl), (tb 275 (by decide +kernel) rfl), by decide, by decide, by decide⟩, (tb 276 (by decide +kernel) rfl)⟩
theorem ok_S_47 : th_okV rn_S 47 rn_S yn_S_forgetAll cb_S_forgetAll 1 none 0 := ⟨⟨(tb 410 (by decide +kernel) rfl), (tb 48 (by decide +kernel) rfl), (tb 407 (by decide +kernel) rfl), by decide, by decide, by decide⟩, (tb 408 (by decide +kernel) rfl), (tb 409 (by decide +kernel) rfl)⟩
theorem ok_S_62 : th_okV rn_S 62 rn_S yn_S_forgetInterrupt cb_S_forgetInterrupt 1 none 0 := ⟨⟨(tb 414 (by decide +kernel) rfl), (tb 48 (by decide +kernel) rfl), (tb 411 (by decide +kernel) rfl), by decide, by decide, by decide⟩, (tb 412 (by decide +kernel) rfl), (tb 413 (by decide +kernel) rfl)⟩
theorem okT_H_143 : th_okT rn_H 143 145 "java/lang/IllegalArgumentException" ["java/lang/RuntimeException", "java/lang/Exception"] := ⟨by decide +kernel, by decide +kernel, (tb 278 (by decide +kernel) rfl), (tb 57 (by decide +kernel) rfl), by decide +kernel, by decide +kernel⟩
theorem okT_H_173 : th_okT rn_H 173 175 "java/lang/IllegalStateException" ["java/lang/RuntimeException", "java/lang/Exception"] := ⟨by decide +kernel, by decide +kernel, (tb 355 (by decide +kernel) rfl), (tb 58 (by decide +kernel) rfl), by decide +kernel, by decide +kernel⟩
