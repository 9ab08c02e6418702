theorem cl_16 : th_cl 16 0 rn_M tf_M 3 ft_M := ⟨rfl, rfl, by decide +kernel, ft_M_ok, nm_M⟩
theorem cl_11 : th_cl 11 1 rn_Q tf_Q 3 ft_Q := ⟨rfl, rfl, by decide +kernel, ft_Q_ok, nm_Q⟩
theorem cl_7 : th_cl 7 2 rn_P tf_P 4 ft_P := ⟨rfl, rfl, by decide +kernel, ft_P_ok, nm_P⟩
theorem cl_14 : th_cl 14 3 rn_R tf_R 2 ft_R := ⟨rfl, rfl, by decide +kernel, ft_R_ok, nm_R⟩
theorem cl_6 : th_cl 6 4 rn_S tf_S 18 ft_S := ⟨rfl, rfl, by decide +kernel, ft_S_ok, nm_S⟩
theorem cl_0 : th_cl 0 5 rn_H tf_H 12 ft_H := ⟨rfl, rfl, by decide +kernel, ft_H_ok, nm_H⟩
theorem cl_20 : th_cl 20 6 rn_O tf_O 36 ft_O := ⟨rfl, rfl, by decide +kernel, ft_O_ok, nm_O⟩
theorem dc_S_isAlive_0 : decode cb_S_isAlive 0 = .ok (.aload_n 0, 1) := by decide +kernel
theorem dc_S_isAlive_1 : decode cb_S_isAlive 1 = .ok (.getfield 37, 3) := by decide +kernel
theorem dc_S_isAlive_4 : decode cb_S_isAlive 4 = .ok (.ifCond .eq 15, 3) := by decide +kernel
theorem dc_S_isAlive_7 : decode cb_S_isAlive 7 = .ok (.aload_n 0, 1) := by decide +kernel
theorem dc_S_isAlive_8 : decode cb_S_isAlive 8 = .ok (.getfield 37, 3) := by decide +kernel
theorem dc_S_isAlive_11 : decode cb_S_isAlive 11 = .ok (.iconst 5, 1) := by decide +kernel
theorem dc_S_isAlive_12 : decode cb_S_isAlive 12 = .ok (.if_icmp .eq 7, 3) := by decide +kernel
theorem dc_S_isAlive_15 : decode cb_S_isAlive 15 = .ok (.iconst 1, 1) := by decide +kernel
theorem dc_S_isAlive_16 : decode cb_S_isAlive 16 = .ok (.goto 4, 3) := by decide +kernel
theorem dc_S_isAlive_19 : decode cb_S_isAlive 19 = .ok (.iconst 0, 1) := by decide +kernel
theorem dc_S_isAlive_20 : decode cb_S_isAlive 20 = .ok (.ireturn, 1) := by decide +kernel
theorem dc_S_forgetInterrupt_0 : decode cb_S_forgetInterrupt 0 = .ok (.aload_n 0, 1) := by decide +kernel
theorem dc_S_forgetInterrupt_1 : decode cb_S_forgetInterrupt 1 = .ok (.iconst 0, 1) := by decide +kernel
theorem dc_S_forgetInterrupt_2 : decode cb_S_forgetInterrupt 2 = .ok (.putfield 65, 3) := by decide +kernel
theorem dc_S_forgetInterrupt_5 : decode cb_S_forgetInterrupt 5 = .ok (.aload_n 0, 1) := by decide +kernel
theorem dc_S_forgetInterrupt_6 : decode cb_S_forgetInterrupt 6 = .ok (.iconst 0, 1) := by decide +kernel
theorem dc_S_forgetInterrupt_7 : decode cb_S_forgetInterrupt 7 = .ok (.putfield 69, 3) := by decide +kernel
theorem dc_S_forgetInterrupt_10 : decode cb_S_forgetInterrupt 10 = .ok (.return_, 1) := by decide +kernel
theorem dc_S_forgetAll_0 : decode cb_S_forgetAll 0 = .ok (.aload_n 0, 1) := by decide +kernel
theorem dc_S_forgetAll_1 : decode cb_S_forgetAll 1 = .ok (.getfield 23, 3) := by decide +kernel
theorem dc_S_forgetAll_4 : decode cb_S_forgetAll 4 = .ok (.iconst 0, 1) := by decide +kernel
theorem dc_S_forgetAll_5 : decode cb_S_forgetAll 5 = .ok (.putfield 59, 3) := by decide +kernel
theorem dc_S_forgetAll_8 : decode cb_S_forgetAll 8 = .ok (.aload_n 0, 1) := by decide +kernel
theorem dc_S_forgetAll_9 : decode cb_S_forgetAll 9 = .ok (.getfield 27, 3) := by decide +kernel
theorem dc_S_forgetAll_12 : decode cb_S_forgetAll 12 = .ok (.iconst 0, 1) := by decide +kernel
theorem dc_S_forgetAll_13 : decode cb_S_forgetAll 13 = .ok (.putfield 59, 3) := by decide +kernel
theorem dc_S_forgetAll_16 : decode cb_S_forgetAll 16 = .ok (.aload_n 0, 1) := by decide +kernel
theorem dc_S_forgetAll_17 : decode cb_S_forgetAll 17 = .ok (.bipush 24, 2) := by decide +kernel
theorem dc_S_forgetAll_19 : decode cb_S_forgetAll 19 = .ok (.putfield 41, 3) := by decide +kernel
theorem dc_S_forgetAll_22 : decode cb_S_forgetAll 22 = .ok (.aload_n 0, 1) := by decide +kernel
theorem dc_S_forgetAll_23 : decode cb_S_forgetAll 23 = .ok (.invokevirtual 62, 3) := by decide +kernel
theorem dc_S_forgetAll_26 : decode cb_S_forgetAll 26 = .ok (.return_, 1) := by decide +kernel
theorem dc_S_beginAnew_0 : decode cb_S_beginAnew 0 = .ok (.aload_n 0, 1) := by decide +kernel
theorem dc_S_beginAnew_1 : decode cb_S_beginAnew 1 = .ok (.invokevirtual 47, 3) := by decide +kernel
theorem dc_S_beginAnew_4 : decode cb_S_beginAnew 4 = .ok (.aload_n 0, 1) := by decide +kernel
theorem dc_S_beginAnew_5 : decode cb_S_beginAnew 5 = .ok (.iconst 1, 1) := by decide +kernel
theorem dc_S_beginAnew_6 : decode cb_S_beginAnew 6 = .ok (.putfield 37, 3) := by decide +kernel
theorem dc_S_beginAnew_9 : decode cb_S_beginAnew 9 = .ok (.aload_n 0, 1) := by decide +kernel
theorem dc_S_beginAnew_10 : decode cb_S_beginAnew 10 = .ok (.iconst 0, 1) := by decide +kernel
theorem dc_S_beginAnew_11 : decode cb_S_beginAnew 11 = .ok (.putfield 50, 3) := by decide +kernel
theorem dc_S_beginAnew_14 : decode cb_S_beginAnew 14 = .ok (.aload_n 0, 1) := by decide +kernel
theorem dc_S_beginAnew_15 : decode cb_S_beginAnew 15 = .ok (.iconst 0, 1) := by decide +kernel
theorem dc_S_beginAnew_16 : decode cb_S_beginAnew 16 = .ok (.putfield 53, 3) := by decide +kernel
theorem dc_S_beginAnew_19 : decode cb_S_beginAnew 19 = .ok (.aload_n 0, 1) := by decide +kernel
theorem dc_S_beginAnew_20 : decode cb_S_beginAnew 20 = .ok (.dup, 1) := by decide +kernel
theorem dc_S_beginAnew_21 : decode cb_S_beginAnew 21 = .ok (.getfield 56, 3) := by decide +kernel
theorem dc_S_beginAnew_24 : decode cb_S_beginAnew 24 = .ok (.iconst 1, 1) := by decide +kernel
theorem dc_S_beginAnew_25 : decode cb_S_beginAnew 25 = .ok (.iadd, 1) := by decide +kernel
theorem dc_S_beginAnew_26 : decode cb_S_beginAnew 26 = .ok (.putfield 56, 3) := by decide +kernel
theorem dc_S_beginAnew_29 : decode cb_S_beginAnew 29 = .ok (.return_, 1) := by decide +kernel
theorem dc_P_append_0 : decode cb_P_append 0 = .ok (.aload_n 0, 1) := by decide +kernel
theorem dc_P_append_1 : decode cb_P_append 1 = .ok (.getfield 21, 3) := by decide +kernel
theorem dc_P_append_4 : decode cb_P_append 4 = .ok (.bipush 24, 2) := by decide +kernel
theorem dc_P_append_6 : decode cb_P_append 6 = .ok (.if_icmp .ge 43, 3) := by decide +kernel
theorem dc_P_append_9 : decode cb_P_append 9 = .ok (.aload_n 0, 1) := by decide +kernel
theorem dc_P_append_10 : decode cb_P_append 10 = .ok (.getfield 9, 3) := by decide +kernel
theorem dc_P_append_13 : decode cb_P_append 13 = .ok (.aload_n 0, 1) := by decide +kernel
theorem dc_P_append_14 : decode cb_P_append 14 = .ok (.getfield 21, 3) := by decide +kernel
theorem dc_P_append_17 : decode cb_P_append 17 = .ok (.iload_n 1, 1) := by decide +kernel
theorem dc_P_append_18 : decode cb_P_append 18 = .ok (.iastore, 1) := by decide +kernel
theorem dc_P_append_19 : decode cb_P_append 19 = .ok (.aload_n 0, 1) := by decide +kernel
theorem dc_P_append_20 : decode cb_P_append 20 = .ok (.getfield 15, 3) := by decide +kernel
theorem dc_P_append_23 : decode cb_P_append 23 = .ok (.aload_n 0, 1) := by decide +kernel
theorem dc_P_append_24 : decode cb_P_append 24 = .ok (.getfield 21, 3) := by decide +kernel
theorem dc_P_append_27 : decode cb_P_append 27 = .ok (.iload_n 2, 1) := by decide +kernel
theorem dc_P_append_28 : decode cb_P_append 28 = .ok (.iastore, 1) := by decide +kernel
theorem dc_P_append_29 : decode cb_P_append 29 = .ok (.aload_n 0, 1) := by decide +kernel
theorem dc_P_append_30 : decode cb_P_append 30 = .ok (.getfield 18, 3) := by decide +kernel
theorem dc_P_append_33 : decode cb_P_append 33 = .ok (.aload_n 0, 1) := by decide +kernel
theorem dc_P_append_34 : decode cb_P_append 34 = .ok (.getfield 21, 3) := by decide +kernel
theorem dc_P_append_37 : decode cb_P_append 37 = .ok (.iload_n 3, 1) := by decide +kernel
theorem dc_P_append_38 : decode cb_P_append 38 = .ok (.iastore, 1) := by decide +kernel
theorem dc_P_append_39 : decode cb_P_append 39 = .ok (.aload_n 0, 1) := by decide +kernel
theorem dc_P_append_40 : decode cb_P_append 40 = .ok (.dup, 1) := by decide +kernel
theorem dc_P_append_41 : decode cb_P_append 41 = .ok (.getfield 21, 3) := by decide +kernel
theorem dc_P_append_44 : decode cb_P_append 44 = .ok (.iconst 1, 1) := by decide +kernel
theorem dc_P_append_45 : decode cb_P_append 45 = .ok (.iadd, 1) := by decide +kernel
theorem dc_P_append_46 : decode cb_P_append 46 = .ok (.putfield 21, 3) := by decide +kernel
theorem dc_P_append_49 : decode cb_P_append 49 = .ok (.return_, 1) := by decide +kernel
theorem dc_Q_latest_0 : decode cb_Q_latest 0 = .ok (.aload_n 0, 1) := by decide +kernel
theorem dc_Q_latest_1 : decode cb_Q_latest 1 = .ok (.getfield 18, 3) := by decide +kernel
theorem dc_Q_latest_4 : decode cb_Q_latest 4 = .ok (.iconst 1, 1) := by decide +kernel
theorem dc_Q_latest_5 : decode cb_Q_latest 5 = .ok (.isub, 1) := by decide +kernel
theorem dc_Q_latest_6 : decode cb_Q_latest 6 = .ok (.istore_n 2, 1) := by decide +kernel
theorem dc_Q_latest_7 : decode cb_Q_latest 7 = .ok (.iload_n 2, 1) := by decide +kernel
theorem dc_Q_latest_8 : decode cb_Q_latest 8 = .ok (.ifCond .lt 21, 3) := by decide +kernel
theorem dc_Q_latest_11 : decode cb_Q_latest 11 = .ok (.aload_n 0, 1) := by decide +kernel
theorem dc_Q_latest_12 : decode cb_Q_latest 12 = .ok (.getfield 9, 3) := by decide +kernel
theorem dc_Q_latest_15 : decode cb_Q_latest 15 = .ok (.iload_n 2, 1) := by decide +kernel
theorem dc_Q_latest_16 : decode cb_Q_latest 16 = .ok (.iaload, 1) := by decide +kernel
theorem dc_Q_latest_17 : decode cb_Q_latest 17 = .ok (.iload_n 1, 1) := by decide +kernel
theorem dc_Q_latest_18 : decode cb_Q_latest 18 = .ok (.if_icmp .ne 5, 3) := by decide +kernel
theorem dc_Q_latest_21 : decode cb_Q_latest 21 = .ok (.iload_n 2, 1) := by decide +kernel
theorem dc_Q_latest_22 : decode cb_Q_latest 22 = .ok (.ireturn, 1) := by decide +kernel
theorem dc_Q_latest_23 : decode cb_Q_latest 23 = .ok (.iinc 2 (-1), 3) := by decide +kernel
theorem dc_Q_latest_26 : decode cb_Q_latest 26 = .ok (.goto (-19), 3) := by decide +kernel
theorem dc_Q_latest_29 : decode cb_Q_latest 29 = .ok (.iconst (-1), 1) := by decide +kernel
theorem dc_Q_latest_30 : decode cb_Q_latest 30 = .ok (.ireturn, 1) := by decide +kernel
theorem dc_H_requireBetween_0 : decode cb_H_requireBetween 0 = .ok (.iload_n 0, 1) := by decide +kernel
theorem dc_H_requireBetween_1 : decode cb_H_requireBetween 1 = .ok (.iload_n 1, 1) := by decide +kernel
theorem dc_H_requireBetween_2 : decode cb_H_requireBetween 2 = .ok (.if_icmp .lt 8, 3) := by decide +kernel
theorem dc_H_requireBetween_5 : decode cb_H_requireBetween 5 = .ok (.iload_n 0, 1) := by decide +kernel
theorem dc_H_requireBetween_6 : decode cb_H_requireBetween 6 = .ok (.iload_n 2, 1) := by decide +kernel
theorem dc_H_requireBetween_7 : decode cb_H_requireBetween 7 = .ok (.if_icmp .le 11, 3) := by decide +kernel
theorem dc_H_requireBetween_10 : decode cb_H_requireBetween 10 = .ok (.new 143, 3) := by decide +kernel
theorem dc_H_requireBetween_13 : decode cb_H_requireBetween 13 = .ok (.dup, 1) := by decide +kernel
theorem dc_H_requireBetween_14 : decode cb_H_requireBetween 14 = .ok (.invokespecial 145, 3) := by decide +kernel
theorem dc_H_requireBetween_17 : decode cb_H_requireBetween 17 = .ok (.athrow, 1) := by decide +kernel
theorem dc_H_requireBetween_18 : decode cb_H_requireBetween 18 = .ok (.return_, 1) := by decide +kernel
theorem dc_H_requireBelow_0 : decode cb_H_requireBelow 0 = .ok (.iload_n 0, 1) := by decide +kernel
theorem dc_H_requireBelow_1 : decode cb_H_requireBelow 1 = .ok (.iconst 0, 1) := by decide +kernel
theorem dc_H_requireBelow_2 : decode cb_H_requireBelow 2 = .ok (.iload_n 1, 1) := by decide +kernel
theorem dc_H_requireBelow_3 : decode cb_H_requireBelow 3 = .ok (.iconst 1, 1) := by decide +kernel
theorem dc_H_requireBelow_4 : decode cb_H_requireBelow 4 = .ok (.isub, 1) := by decide +kernel
theorem dc_H_requireBelow_5 : decode cb_H_requireBelow 5 = .ok (.invokestatic 86, 3) := by decide +kernel
theorem dc_H_requireBelow_8 : decode cb_H_requireBelow 8 = .ok (.return_, 1) := by decide +kernel
theorem dc_H_requireOperand_0 : decode cb_H_requireOperand 0 = .ok (.iload_n 1, 1) := by decide +kernel
theorem dc_H_requireOperand_1 : decode cb_H_requireOperand 1 = .ok (.ifCond .le 8, 3) := by decide +kernel
theorem dc_H_requireOperand_4 : decode cb_H_requireOperand 4 = .ok (.iload_n 0, 1) := by decide +kernel
theorem dc_H_requireOperand_5 : decode cb_H_requireOperand 5 = .ok (.iload_n 1, 1) := by decide +kernel
theorem dc_H_requireOperand_6 : decode cb_H_requireOperand 6 = .ok (.invokestatic 46, 3) := by decide +kernel
theorem dc_H_requireOperand_9 : decode cb_H_requireOperand 9 = .ok (.return_, 1) := by decide +kernel
theorem dc_H_requireNotAlive_0 : decode cb_H_requireNotAlive 0 = .ok (.aload_n 0, 1) := by decide +kernel
theorem dc_H_requireNotAlive_1 : decode cb_H_requireNotAlive 1 = .ok (.invokevirtual 79, 3) := by decide +kernel
theorem dc_H_requireNotAlive_4 : decode cb_H_requireNotAlive 4 = .ok (.ifCond .eq 11, 3) := by decide +kernel
theorem dc_H_requireNotAlive_7 : decode cb_H_requireNotAlive 7 = .ok (.new 173, 3) := by decide +kernel
theorem dc_H_requireNotAlive_10 : decode cb_H_requireNotAlive 10 = .ok (.dup, 1) := by decide +kernel
theorem dc_H_requireNotAlive_11 : decode cb_H_requireNotAlive 11 = .ok (.invokespecial 175, 3) := by decide +kernel
theorem dc_H_requireNotAlive_14 : decode cb_H_requireNotAlive 14 = .ok (.athrow, 1) := by decide +kernel
theorem dc_H_requireNotAlive_15 : decode cb_H_requireNotAlive 15 = .ok (.return_, 1) := by decide +kernel
theorem dc_H_nextReady_0 : decode cb_H_nextReady 0 = .ok (.iconst 1, 1) := by decide +kernel
theorem dc_H_nextReady_1 : decode cb_H_nextReady 1 = .ok (.istore_n 1, 1) := by decide +kernel
theorem dc_H_nextReady_2 : decode cb_H_nextReady 2 = .ok (.iload_n 1, 1) := by decide +kernel
theorem dc_H_nextReady_3 : decode cb_H_nextReady 3 = .ok (.iconst 5, 1) := by decide +kernel
theorem dc_H_nextReady_4 : decode cb_H_nextReady 4 = .ok (.if_icmp .gt 33, 3) := by decide +kernel
theorem dc_H_nextReady_7 : decode cb_H_nextReady 7 = .ok (.aload_n 0, 1) := by decide +kernel
theorem dc_H_nextReady_8 : decode cb_H_nextReady 8 = .ok (.getfield 43, 3) := by decide +kernel
theorem dc_H_nextReady_11 : decode cb_H_nextReady 11 = .ok (.iload_n 1, 1) := by decide +kernel
theorem dc_H_nextReady_12 : decode cb_H_nextReady 12 = .ok (.iadd, 1) := by decide +kernel
theorem dc_H_nextReady_13 : decode cb_H_nextReady 13 = .ok (.iconst 5, 1) := by decide +kernel
theorem dc_H_nextReady_14 : decode cb_H_nextReady 14 = .ok (.irem, 1) := by decide +kernel
theorem dc_H_nextReady_15 : decode cb_H_nextReady 15 = .ok (.istore_n 2, 1) := by decide +kernel
theorem dc_H_nextReady_16 : decode cb_H_nextReady 16 = .ok (.aload_n 0, 1) := by decide +kernel
theorem dc_H_nextReady_17 : decode cb_H_nextReady 17 = .ok (.getfield 11, 3) := by decide +kernel
theorem dc_H_nextReady_20 : decode cb_H_nextReady 20 = .ok (.iload_n 2, 1) := by decide +kernel
theorem dc_H_nextReady_21 : decode cb_H_nextReady 21 = .ok (.aaload, 1) := by decide +kernel
theorem dc_H_nextReady_22 : decode cb_H_nextReady 22 = .ok (.getfield 106, 3) := by decide +kernel
theorem dc_H_nextReady_25 : decode cb_H_nextReady 25 = .ok (.iconst 1, 1) := by decide +kernel
theorem dc_H_nextReady_26 : decode cb_H_nextReady 26 = .ok (.if_icmp .ne 5, 3) := by decide +kernel
theorem dc_H_nextReady_29 : decode cb_H_nextReady 29 = .ok (.iload_n 2, 1) := by decide +kernel
theorem dc_H_nextReady_30 : decode cb_H_nextReady 30 = .ok (.ireturn, 1) := by decide +kernel
theorem dc_H_nextReady_31 : decode cb_H_nextReady 31 = .ok (.iinc 1 1, 3) := by decide +kernel
theorem dc_H_nextReady_34 : decode cb_H_nextReady 34 = .ok (.goto (-32), 3) := by decide +kernel
theorem dc_H_nextReady_37 : decode cb_H_nextReady 37 = .ok (.iconst (-1), 1) := by decide +kernel
theorem dc_H_nextReady_38 : decode cb_H_nextReady 38 = .ok (.ireturn, 1) := by decide +kernel
theorem dc_H_aliveCount_0 : decode cb_H_aliveCount 0 = .ok (.iconst 0, 1) := by decide +kernel
theorem dc_H_aliveCount_1 : decode cb_H_aliveCount 1 = .ok (.istore_n 1, 1) := by decide +kernel
theorem dc_H_aliveCount_2 : decode cb_H_aliveCount 2 = .ok (.iconst 0, 1) := by decide +kernel
theorem dc_H_aliveCount_3 : decode cb_H_aliveCount 3 = .ok (.istore_n 2, 1) := by decide +kernel
theorem dc_H_aliveCount_4 : decode cb_H_aliveCount 4 = .ok (.iload_n 2, 1) := by decide +kernel
theorem dc_H_aliveCount_5 : decode cb_H_aliveCount 5 = .ok (.iconst 5, 1) := by decide +kernel
theorem dc_H_aliveCount_6 : decode cb_H_aliveCount 6 = .ok (.if_icmp .ge 24, 3) := by decide +kernel
theorem dc_H_aliveCount_9 : decode cb_H_aliveCount 9 = .ok (.aload_n 0, 1) := by decide +kernel
theorem dc_H_aliveCount_10 : decode cb_H_aliveCount 10 = .ok (.getfield 11, 3) := by decide +kernel
theorem dc_H_aliveCount_13 : decode cb_H_aliveCount 13 = .ok (.iload_n 2, 1) := by decide +kernel
theorem dc_H_aliveCount_14 : decode cb_H_aliveCount 14 = .ok (.aaload, 1) := by decide +kernel
theorem dc_H_aliveCount_15 : decode cb_H_aliveCount 15 = .ok (.invokevirtual 79, 3) := by decide +kernel
theorem dc_H_aliveCount_18 : decode cb_H_aliveCount 18 = .ok (.ifCond .eq 6, 3) := by decide +kernel
theorem dc_H_aliveCount_21 : decode cb_H_aliveCount 21 = .ok (.iinc 1 1, 3) := by decide +kernel
theorem dc_H_aliveCount_24 : decode cb_H_aliveCount 24 = .ok (.iinc 2 1, 3) := by decide +kernel
theorem dc_H_aliveCount_27 : decode cb_H_aliveCount 27 = .ok (.goto (-23), 3) := by decide +kernel
theorem dc_H_aliveCount_30 : decode cb_H_aliveCount 30 = .ok (.iload_n 1, 1) := by decide +kernel
theorem dc_H_aliveCount_31 : decode cb_H_aliveCount 31 = .ok (.ireturn, 1) := by decide +kernel
theorem dc_H_readyCount_0 : decode cb_H_readyCount 0 = .ok (.iconst 0, 1) := by decide +kernel
theorem dc_H_readyCount_1 : decode cb_H_readyCount 1 = .ok (.istore_n 1, 1) := by decide +kernel
theorem dc_H_readyCount_2 : decode cb_H_readyCount 2 = .ok (.iconst 0, 1) := by decide +kernel
theorem dc_H_readyCount_3 : decode cb_H_readyCount 3 = .ok (.istore_n 2, 1) := by decide +kernel
theorem dc_H_readyCount_4 : decode cb_H_readyCount 4 = .ok (.iload_n 2, 1) := by decide +kernel
theorem dc_H_readyCount_5 : decode cb_H_readyCount 5 = .ok (.iconst 5, 1) := by decide +kernel
theorem dc_H_readyCount_6 : decode cb_H_readyCount 6 = .ok (.if_icmp .ge 25, 3) := by decide +kernel
theorem dc_H_readyCount_9 : decode cb_H_readyCount 9 = .ok (.aload_n 0, 1) := by decide +kernel
theorem dc_H_readyCount_10 : decode cb_H_readyCount 10 = .ok (.getfield 11, 3) := by decide +kernel
theorem dc_H_readyCount_13 : decode cb_H_readyCount 13 = .ok (.iload_n 2, 1) := by decide +kernel
theorem dc_H_readyCount_14 : decode cb_H_readyCount 14 = .ok (.aaload, 1) := by decide +kernel
theorem dc_H_readyCount_15 : decode cb_H_readyCount 15 = .ok (.getfield 106, 3) := by decide +kernel
theorem dc_H_readyCount_18 : decode cb_H_readyCount 18 = .ok (.iconst 1, 1) := by decide +kernel
theorem dc_H_readyCount_19 : decode cb_H_readyCount 19 = .ok (.if_icmp .ne 6, 3) := by decide +kernel
theorem dc_H_readyCount_22 : decode cb_H_readyCount 22 = .ok (.iinc 1 1, 3) := by decide +kernel
theorem dc_H_readyCount_25 : decode cb_H_readyCount 25 = .ok (.iinc 2 1, 3) := by decide +kernel
theorem dc_H_readyCount_28 : decode cb_H_readyCount 28 = .ok (.goto (-24), 3) := by decide +kernel
theorem dc_H_readyCount_31 : decode cb_H_readyCount 31 = .ok (.iload_n 1, 1) := by decide +kernel
theorem dc_H_readyCount_32 : decode cb_H_readyCount 32 = .ok (.ireturn, 1) := by decide +kernel
theorem dc_H_read_0 : decode cb_H_read 0 = .ok (.aload_n 1, 1) := by decide +kernel
theorem dc_H_read_1 : decode cb_H_read 1 = .ok (.getfield 115, 3) := by decide +kernel
theorem dc_H_read_4 : decode cb_H_read 4 = .ok (.iload_n 2, 1) := by decide +kernel
theorem dc_H_read_5 : decode cb_H_read 5 = .ok (.invokevirtual 251, 3) := by decide +kernel
theorem dc_H_read_8 : decode cb_H_read 8 = .ok (.istore_n 3, 1) := by decide +kernel
theorem dc_H_read_9 : decode cb_H_read 9 = .ok (.iload_n 3, 1) := by decide +kernel
theorem dc_H_read_10 : decode cb_H_read 10 = .ok (.iconst (-1), 1) := by decide +kernel
theorem dc_H_read_11 : decode cb_H_read 11 = .ok (.if_icmp .ne 12, 3) := by decide +kernel
theorem dc_H_read_14 : decode cb_H_read 14 = .ok (.aload_n 0, 1) := by decide +kernel
theorem dc_H_read_15 : decode cb_H_read 15 = .ok (.getfield 32, 3) := by decide +kernel
theorem dc_H_read_18 : decode cb_H_read 18 = .ok (.iload_n 2, 1) := by decide +kernel
theorem dc_H_read_19 : decode cb_H_read 19 = .ok (.iaload, 1) := by decide +kernel
theorem dc_H_read_20 : decode cb_H_read 20 = .ok (.goto 12, 3) := by decide +kernel
theorem dc_H_read_23 : decode cb_H_read 23 = .ok (.aload_n 1, 1) := by decide +kernel
theorem dc_H_read_24 : decode cb_H_read 24 = .ok (.getfield 115, 3) := by decide +kernel
theorem dc_H_read_27 : decode cb_H_read 27 = .ok (.getfield 255, 3) := by decide +kernel
theorem dc_H_read_30 : decode cb_H_read 30 = .ok (.iload_n 3, 1) := by decide +kernel
theorem dc_H_read_31 : decode cb_H_read 31 = .ok (.iaload, 1) := by decide +kernel
theorem dc_H_read_32 : decode cb_H_read 32 = .ok (.ireturn, 1) := by decide +kernel
theorem dc_H_add_0 : decode cb_H_add 0 = .ok (.iload_n 1, 1) := by decide +kernel
theorem dc_H_add_1 : decode cb_H_add 1 = .ok (.iconst 5, 1) := by decide +kernel
theorem dc_H_add_2 : decode cb_H_add 2 = .ok (.invokestatic 46, 3) := by decide +kernel
theorem dc_H_add_5 : decode cb_H_add 5 = .ok (.iload_n 2, 1) := by decide +kernel
theorem dc_H_add_6 : decode cb_H_add 6 = .ok (.getstatic 50, 3) := by decide +kernel
theorem dc_H_add_9 : decode cb_H_add 9 = .ok (.arraylength, 1) := by decide +kernel
theorem dc_H_add_10 : decode cb_H_add 10 = .ok (.invokestatic 46, 3) := by decide +kernel
theorem dc_H_add_13 : decode cb_H_add 13 = .ok (.iload_n 3, 1) := by decide +kernel
theorem dc_H_add_14 : decode cb_H_add 14 = .ok (.getstatic 50, 3) := by decide +kernel
theorem dc_H_add_17 : decode cb_H_add 17 = .ok (.iload_n 2, 1) := by decide +kernel
theorem dc_H_add_18 : decode cb_H_add 18 = .ok (.iaload, 1) := by decide +kernel
theorem dc_H_add_19 : decode cb_H_add 19 = .ok (.invokestatic 53, 3) := by decide +kernel
theorem dc_H_add_22 : decode cb_H_add 22 = .ok (.iload 4, 2) := by decide +kernel
theorem dc_H_add_24 : decode cb_H_add 24 = .ok (.getstatic 56, 3) := by decide +kernel
theorem dc_H_add_27 : decode cb_H_add 27 = .ok (.iload_n 2, 1) := by decide +kernel
theorem dc_H_add_28 : decode cb_H_add 28 = .ok (.iaload, 1) := by decide +kernel
theorem dc_H_add_29 : decode cb_H_add 29 = .ok (.invokestatic 53, 3) := by decide +kernel
theorem dc_H_add_32 : decode cb_H_add 32 = .ok (.aload_n 0, 1) := by decide +kernel
theorem dc_H_add_33 : decode cb_H_add 33 = .ok (.getfield 11, 3) := by decide +kernel
theorem dc_H_add_36 : decode cb_H_add 36 = .ok (.iload_n 1, 1) := by decide +kernel
theorem dc_H_add_37 : decode cb_H_add 37 = .ok (.aaload, 1) := by decide +kernel
theorem dc_H_add_38 : decode cb_H_add 38 = .ok (.invokestatic 59, 3) := by decide +kernel
theorem dc_H_add_41 : decode cb_H_add 41 = .ok (.aload_n 0, 1) := by decide +kernel
theorem dc_H_add_42 : decode cb_H_add 42 = .ok (.getfield 11, 3) := by decide +kernel
theorem dc_H_add_45 : decode cb_H_add 45 = .ok (.iload_n 1, 1) := by decide +kernel
theorem dc_H_add_46 : decode cb_H_add 46 = .ok (.aaload, 1) := by decide +kernel
theorem dc_H_add_47 : decode cb_H_add 47 = .ok (.getfield 63, 3) := by decide +kernel
theorem dc_H_add_50 : decode cb_H_add 50 = .ok (.astore 5, 2) := by decide +kernel
theorem dc_H_add_52 : decode cb_H_add 52 = .ok (.aload 5, 2) := by decide +kernel
theorem dc_H_add_54 : decode cb_H_add 54 = .ok (.getfield 67, 3) := by decide +kernel
theorem dc_H_add_57 : decode cb_H_add 57 = .ok (.bipush 24, 2) := by decide +kernel
theorem dc_H_add_59 : decode cb_H_add 59 = .ok (.if_icmp .lt 11, 3) := by decide +kernel
theorem dc_H_add_62 : decode cb_H_add 62 = .ok (.new 72, 3) := by decide +kernel
theorem dc_H_add_65 : decode cb_H_add 65 = .ok (.dup, 1) := by decide +kernel
theorem dc_H_add_66 : decode cb_H_add 66 = .ok (.invokespecial 74, 3) := by decide +kernel
theorem dc_H_add_69 : decode cb_H_add 69 = .ok (.athrow, 1) := by decide +kernel
theorem dc_H_add_70 : decode cb_H_add 70 = .ok (.aload 5, 2) := by decide +kernel
theorem dc_H_add_72 : decode cb_H_add 72 = .ok (.iload_n 2, 1) := by decide +kernel
theorem dc_H_add_73 : decode cb_H_add 73 = .ok (.iload_n 3, 1) := by decide +kernel
theorem dc_H_add_74 : decode cb_H_add 74 = .ok (.iload 4, 2) := by decide +kernel
theorem dc_H_add_76 : decode cb_H_add 76 = .ok (.invokevirtual 75, 3) := by decide +kernel
theorem dc_H_add_79 : decode cb_H_add 79 = .ok (.aload 5, 2) := by decide +kernel
theorem dc_H_add_81 : decode cb_H_add 81 = .ok (.getfield 67, 3) := by decide +kernel
theorem dc_H_add_84 : decode cb_H_add 84 = .ok (.ireturn, 1) := by decide +kernel
theorem dc_H_clear_0 : decode cb_H_clear 0 = .ok (.iload_n 1, 1) := by decide +kernel
theorem dc_H_clear_1 : decode cb_H_clear 1 = .ok (.iconst 5, 1) := by decide +kernel
theorem dc_H_clear_2 : decode cb_H_clear 2 = .ok (.invokestatic 46, 3) := by decide +kernel
theorem dc_H_clear_5 : decode cb_H_clear 5 = .ok (.aload_n 0, 1) := by decide +kernel
theorem dc_H_clear_6 : decode cb_H_clear 6 = .ok (.getfield 11, 3) := by decide +kernel
theorem dc_H_clear_9 : decode cb_H_clear 9 = .ok (.iload_n 1, 1) := by decide +kernel
theorem dc_H_clear_10 : decode cb_H_clear 10 = .ok (.aaload, 1) := by decide +kernel
theorem dc_H_clear_11 : decode cb_H_clear 11 = .ok (.invokestatic 59, 3) := by decide +kernel
theorem dc_H_clear_14 : decode cb_H_clear 14 = .ok (.aload_n 0, 1) := by decide +kernel
theorem dc_H_clear_15 : decode cb_H_clear 15 = .ok (.getfield 11, 3) := by decide +kernel
theorem dc_H_clear_18 : decode cb_H_clear 18 = .ok (.iload_n 1, 1) := by decide +kernel
theorem dc_H_clear_19 : decode cb_H_clear 19 = .ok (.aaload, 1) := by decide +kernel
theorem dc_H_clear_20 : decode cb_H_clear 20 = .ok (.getfield 63, 3) := by decide +kernel
theorem dc_H_clear_23 : decode cb_H_clear 23 = .ok (.getfield 67, 3) := by decide +kernel
theorem dc_H_clear_26 : decode cb_H_clear 26 = .ok (.istore_n 2, 1) := by decide +kernel
theorem dc_H_clear_27 : decode cb_H_clear 27 = .ok (.aload_n 0, 1) := by decide +kernel
theorem dc_H_clear_28 : decode cb_H_clear 28 = .ok (.getfield 11, 3) := by decide +kernel
theorem dc_H_clear_31 : decode cb_H_clear 31 = .ok (.iload_n 1, 1) := by decide +kernel
theorem dc_H_clear_32 : decode cb_H_clear 32 = .ok (.aaload, 1) := by decide +kernel
theorem dc_H_clear_33 : decode cb_H_clear 33 = .ok (.getfield 63, 3) := by decide +kernel
theorem dc_H_clear_36 : decode cb_H_clear 36 = .ok (.iconst 0, 1) := by decide +kernel
theorem dc_H_clear_37 : decode cb_H_clear 37 = .ok (.putfield 67, 3) := by decide +kernel
theorem dc_H_clear_40 : decode cb_H_clear 40 = .ok (.iload_n 2, 1) := by decide +kernel
theorem dc_H_clear_41 : decode cb_H_clear 41 = .ok (.ireturn, 1) := by decide +kernel
theorem dc_H_start_0 : decode cb_H_start 0 = .ok (.iload_n 1, 1) := by decide +kernel
theorem dc_H_start_1 : decode cb_H_start 1 = .ok (.iconst 5, 1) := by decide +kernel
theorem dc_H_start_2 : decode cb_H_start 2 = .ok (.invokestatic 46, 3) := by decide +kernel
theorem dc_H_start_5 : decode cb_H_start 5 = .ok (.aload_n 0, 1) := by decide +kernel
theorem dc_H_start_6 : decode cb_H_start 6 = .ok (.getfield 11, 3) := by decide +kernel
theorem dc_H_start_9 : decode cb_H_start 9 = .ok (.iload_n 1, 1) := by decide +kernel
theorem dc_H_start_10 : decode cb_H_start 10 = .ok (.aaload, 1) := by decide +kernel
theorem dc_H_start_11 : decode cb_H_start 11 = .ok (.invokevirtual 79, 3) := by decide +kernel
theorem dc_H_start_14 : decode cb_H_start 14 = .ok (.ifCond .eq 5, 3) := by decide +kernel
theorem dc_H_start_17 : decode cb_H_start 17 = .ok (.iconst 0, 1) := by decide +kernel
theorem dc_H_start_18 : decode cb_H_start 18 = .ok (.ireturn, 1) := by decide +kernel
theorem dc_H_start_19 : decode cb_H_start 19 = .ok (.aload_n 0, 1) := by decide +kernel
theorem dc_H_start_20 : decode cb_H_start 20 = .ok (.getfield 11, 3) := by decide +kernel
theorem dc_H_start_23 : decode cb_H_start 23 = .ok (.iload_n 1, 1) := by decide +kernel
theorem dc_H_start_24 : decode cb_H_start 24 = .ok (.aaload, 1) := by decide +kernel
theorem dc_H_start_25 : decode cb_H_start 25 = .ok (.invokevirtual 83, 3) := by decide +kernel
theorem dc_H_start_28 : decode cb_H_start 28 = .ok (.iconst 1, 1) := by decide +kernel
theorem dc_H_start_29 : decode cb_H_start 29 = .ok (.ireturn, 1) := by decide +kernel
theorem dc_H_run_0 : decode cb_H_run 0 = .ok (.iload_n 1, 1) := by decide +kernel
theorem dc_H_run_1 : decode cb_H_run 1 = .ok (.iconst 1, 1) := by decide +kernel
theorem dc_H_run_2 : decode cb_H_run 2 = .ok (.bipush 40, 2) := by decide +kernel
theorem dc_H_run_4 : decode cb_H_run 4 = .ok (.invokestatic 86, 3) := by decide +kernel
theorem dc_H_run_7 : decode cb_H_run 7 = .ok (.aload_n 0, 1) := by decide +kernel
theorem dc_H_run_8 : decode cb_H_run 8 = .ok (.getfield 89, 3) := by decide +kernel
theorem dc_H_run_11 : decode cb_H_run 11 = .ok (.istore_n 2, 1) := by decide +kernel
theorem dc_H_run_12 : decode cb_H_run 12 = .ok (.iconst 0, 1) := by decide +kernel
theorem dc_H_run_13 : decode cb_H_run 13 = .ok (.istore_n 3, 1) := by decide +kernel
theorem dc_H_run_14 : decode cb_H_run 14 = .ok (.iload_n 3, 1) := by decide +kernel
theorem dc_H_run_15 : decode cb_H_run 15 = .ok (.iload_n 1, 1) := by decide +kernel
theorem dc_H_run_16 : decode cb_H_run 16 = .ok (.if_icmp .ge 35, 3) := by decide +kernel
theorem dc_H_run_19 : decode cb_H_run 19 = .ok (.aload_n 0, 1) := by decide +kernel
theorem dc_H_run_20 : decode cb_H_run 20 = .ok (.invokevirtual 92, 3) := by decide +kernel
theorem dc_H_run_23 : decode cb_H_run 23 = .ok (.istore 4, 2) := by decide +kernel
theorem dc_H_run_25 : decode cb_H_run 25 = .ok (.iload 4, 2) := by decide +kernel
theorem dc_H_run_27 : decode cb_H_run 27 = .ok (.iconst (-1), 1) := by decide +kernel
theorem dc_H_run_28 : decode cb_H_run 28 = .ok (.if_icmp .ne 6, 3) := by decide +kernel
theorem dc_H_run_31 : decode cb_H_run 31 = .ok (.goto 20, 3) := by decide +kernel
theorem dc_H_run_34 : decode cb_H_run 34 = .ok (.aload_n 0, 1) := by decide +kernel
theorem dc_H_run_35 : decode cb_H_run 35 = .ok (.aload_n 0, 1) := by decide +kernel
theorem dc_H_run_36 : decode cb_H_run 36 = .ok (.getfield 11, 3) := by decide +kernel
theorem dc_H_run_39 : decode cb_H_run 39 = .ok (.iload 4, 2) := by decide +kernel
theorem dc_H_run_41 : decode cb_H_run 41 = .ok (.aaload, 1) := by decide +kernel
theorem dc_H_run_42 : decode cb_H_run 42 = .ok (.invokevirtual 96, 3) := by decide +kernel
theorem dc_H_run_45 : decode cb_H_run 45 = .ok (.iinc 3 1, 3) := by decide +kernel
theorem dc_H_run_48 : decode cb_H_run 48 = .ok (.goto (-34), 3) := by decide +kernel
theorem dc_H_run_51 : decode cb_H_run 51 = .ok (.aload_n 0, 1) := by decide +kernel
theorem dc_H_run_52 : decode cb_H_run 52 = .ok (.getfield 89, 3) := by decide +kernel
theorem dc_H_run_55 : decode cb_H_run 55 = .ok (.iload_n 2, 1) := by decide +kernel
theorem dc_H_run_56 : decode cb_H_run 56 = .ok (.isub, 1) := by decide +kernel
theorem dc_H_run_57 : decode cb_H_run 57 = .ok (.ireturn, 1) := by decide +kernel
theorem dc_H_interrupt_0 : decode cb_H_interrupt 0 = .ok (.iload_n 1, 1) := by decide +kernel
theorem dc_H_interrupt_1 : decode cb_H_interrupt 1 = .ok (.iconst 5, 1) := by decide +kernel
theorem dc_H_interrupt_2 : decode cb_H_interrupt 2 = .ok (.invokestatic 46, 3) := by decide +kernel
theorem dc_H_interrupt_5 : decode cb_H_interrupt 5 = .ok (.aload_n 0, 1) := by decide +kernel
theorem dc_H_interrupt_6 : decode cb_H_interrupt 6 = .ok (.getfield 11, 3) := by decide +kernel
theorem dc_H_interrupt_9 : decode cb_H_interrupt 9 = .ok (.iload_n 1, 1) := by decide +kernel
theorem dc_H_interrupt_10 : decode cb_H_interrupt 10 = .ok (.aaload, 1) := by decide +kernel
theorem dc_H_interrupt_11 : decode cb_H_interrupt 11 = .ok (.invokevirtual 79, 3) := by decide +kernel
theorem dc_H_interrupt_14 : decode cb_H_interrupt 14 = .ok (.ifCond .ne 5, 3) := by decide +kernel
theorem dc_H_interrupt_17 : decode cb_H_interrupt 17 = .ok (.iconst 0, 1) := by decide +kernel
theorem dc_H_interrupt_18 : decode cb_H_interrupt 18 = .ok (.ireturn, 1) := by decide +kernel
theorem dc_H_interrupt_19 : decode cb_H_interrupt 19 = .ok (.aload_n 0, 1) := by decide +kernel
theorem dc_H_interrupt_20 : decode cb_H_interrupt 20 = .ok (.aload_n 0, 1) := by decide +kernel
theorem dc_H_interrupt_21 : decode cb_H_interrupt 21 = .ok (.getfield 11, 3) := by decide +kernel
theorem dc_H_interrupt_24 : decode cb_H_interrupt 24 = .ok (.iload_n 1, 1) := by decide +kernel
theorem dc_H_interrupt_25 : decode cb_H_interrupt 25 = .ok (.aaload, 1) := by decide +kernel
theorem dc_H_interrupt_26 : decode cb_H_interrupt 26 = .ok (.invokevirtual 99, 3) := by decide +kernel
theorem dc_H_interrupt_29 : decode cb_H_interrupt 29 = .ok (.iconst 1, 1) := by decide +kernel
theorem dc_H_interrupt_30 : decode cb_H_interrupt 30 = .ok (.ireturn, 1) := by decide +kernel
theorem dc_H_slice_0 : decode cb_H_slice 0 = .ok (.iload_n 1, 1) := by decide +kernel
theorem dc_H_slice_1 : decode cb_H_slice 1 = .ok (.iconst 1, 1) := by decide +kernel
theorem dc_H_slice_2 : decode cb_H_slice 2 = .ok (.bipush 20, 2) := by decide +kernel
theorem dc_H_slice_4 : decode cb_H_slice 4 = .ok (.invokestatic 86, 3) := by decide +kernel
theorem dc_H_slice_7 : decode cb_H_slice 7 = .ok (.aload_n 0, 1) := by decide +kernel
theorem dc_H_slice_8 : decode cb_H_slice 8 = .ok (.getfield 39, 3) := by decide +kernel
theorem dc_H_slice_11 : decode cb_H_slice 11 = .ok (.istore_n 2, 1) := by decide +kernel
theorem dc_H_slice_12 : decode cb_H_slice 12 = .ok (.aload_n 0, 1) := by decide +kernel
theorem dc_H_slice_13 : decode cb_H_slice 13 = .ok (.iload_n 1, 1) := by decide +kernel
theorem dc_H_slice_14 : decode cb_H_slice 14 = .ok (.putfield 39, 3) := by decide +kernel
theorem dc_H_slice_17 : decode cb_H_slice 17 = .ok (.iload_n 2, 1) := by decide +kernel
theorem dc_H_slice_18 : decode cb_H_slice 18 = .ok (.ireturn, 1) := by decide +kernel
theorem dc_H_global_0 : decode cb_H_global 0 = .ok (.iload_n 1, 1) := by decide +kernel
theorem dc_H_global_1 : decode cb_H_global 1 = .ok (.iconst 4, 1) := by decide +kernel
theorem dc_H_global_2 : decode cb_H_global 2 = .ok (.invokestatic 46, 3) := by decide +kernel
theorem dc_H_global_5 : decode cb_H_global 5 = .ok (.aload_n 0, 1) := by decide +kernel
theorem dc_H_global_6 : decode cb_H_global 6 = .ok (.getfield 32, 3) := by decide +kernel
theorem dc_H_global_9 : decode cb_H_global 9 = .ok (.iload_n 1, 1) := by decide +kernel
theorem dc_H_global_10 : decode cb_H_global 10 = .ok (.iaload, 1) := by decide +kernel
theorem dc_H_global_11 : decode cb_H_global 11 = .ok (.istore_n 3, 1) := by decide +kernel
theorem dc_H_global_12 : decode cb_H_global 12 = .ok (.aload_n 0, 1) := by decide +kernel
theorem dc_H_global_13 : decode cb_H_global 13 = .ok (.getfield 32, 3) := by decide +kernel
theorem dc_H_global_16 : decode cb_H_global 16 = .ok (.iload_n 1, 1) := by decide +kernel
theorem dc_H_global_17 : decode cb_H_global 17 = .ok (.iload_n 2, 1) := by decide +kernel
theorem dc_H_global_18 : decode cb_H_global 18 = .ok (.iastore, 1) := by decide +kernel
theorem dc_H_global_19 : decode cb_H_global 19 = .ok (.iload_n 3, 1) := by decide +kernel
theorem dc_H_global_20 : decode cb_H_global 20 = .ok (.ireturn, 1) := by decide +kernel
theorem dc_H_special_0 : decode cb_H_special 0 = .ok (.iload_n 1, 1) := by decide +kernel
theorem dc_H_special_1 : decode cb_H_special 1 = .ok (.iconst 5, 1) := by decide +kernel
theorem dc_H_special_2 : decode cb_H_special 2 = .ok (.invokestatic 46, 3) := by decide +kernel
theorem dc_H_special_5 : decode cb_H_special 5 = .ok (.iload_n 2, 1) := by decide +kernel
theorem dc_H_special_6 : decode cb_H_special 6 = .ok (.iconst 4, 1) := by decide +kernel
theorem dc_H_special_7 : decode cb_H_special 7 = .ok (.invokestatic 46, 3) := by decide +kernel
theorem dc_H_special_10 : decode cb_H_special 10 = .ok (.aload_n 0, 1) := by decide +kernel
theorem dc_H_special_11 : decode cb_H_special 11 = .ok (.aload_n 0, 1) := by decide +kernel
theorem dc_H_special_12 : decode cb_H_special 12 = .ok (.getfield 11, 3) := by decide +kernel
theorem dc_H_special_15 : decode cb_H_special 15 = .ok (.iload_n 1, 1) := by decide +kernel
theorem dc_H_special_16 : decode cb_H_special 16 = .ok (.aaload, 1) := by decide +kernel
theorem dc_H_special_17 : decode cb_H_special 17 = .ok (.iload_n 2, 1) := by decide +kernel
theorem dc_H_special_18 : decode cb_H_special 18 = .ok (.invokevirtual 102, 3) := by decide +kernel
theorem dc_H_special_21 : decode cb_H_special 21 = .ok (.ireturn, 1) := by decide +kernel
theorem dc_H_look_0 : decode cb_H_look 0 = .ok (.iload_n 1, 1) := by decide +kernel
theorem dc_H_look_1 : decode cb_H_look 1 = .ok (.iconst 5, 1) := by decide +kernel
theorem dc_H_look_2 : decode cb_H_look 2 = .ok (.invokestatic 46, 3) := by decide +kernel
theorem dc_H_look_5 : decode cb_H_look 5 = .ok (.aload_n 0, 1) := by decide +kernel
theorem dc_H_look_6 : decode cb_H_look 6 = .ok (.getfield 11, 3) := by decide +kernel
theorem dc_H_look_9 : decode cb_H_look 9 = .ok (.iload_n 1, 1) := by decide +kernel
theorem dc_H_look_10 : decode cb_H_look 10 = .ok (.aaload, 1) := by decide +kernel
theorem dc_H_look_11 : decode cb_H_look 11 = .ok (.astore_n 3, 1) := by decide +kernel
theorem dc_H_look_12 : decode cb_H_look 12 = .ok (.iload_n 2, 1) := by decide +kernel
theorem dc_H_look_13 : decode cb_H_look 13 = .ok (.tableswitch 122 0 9 #[55, 60, 65, 70, 78, 86, 99, 104, 109, 114], 55) := by decide +kernel
theorem dc_H_look_68 : decode cb_H_look 68 = .ok (.aload_n 3, 1) := by decide +kernel
theorem dc_H_look_69 : decode cb_H_look 69 = .ok (.getfield 106, 3) := by decide +kernel
theorem dc_H_look_72 : decode cb_H_look 72 = .ok (.ireturn, 1) := by decide +kernel
theorem dc_H_look_73 : decode cb_H_look 73 = .ok (.aload_n 3, 1) := by decide +kernel
theorem dc_H_look_74 : decode cb_H_look 74 = .ok (.getfield 109, 3) := by decide +kernel
theorem dc_H_look_77 : decode cb_H_look 77 = .ok (.ireturn, 1) := by decide +kernel
theorem dc_H_look_78 : decode cb_H_look 78 = .ok (.aload_n 3, 1) := by decide +kernel
theorem dc_H_look_79 : decode cb_H_look 79 = .ok (.getfield 112, 3) := by decide +kernel
theorem dc_H_look_82 : decode cb_H_look 82 = .ok (.ireturn, 1) := by decide +kernel
theorem dc_H_look_83 : decode cb_H_look 83 = .ok (.aload_n 3, 1) := by decide +kernel
theorem dc_H_look_84 : decode cb_H_look 84 = .ok (.getfield 115, 3) := by decide +kernel
theorem dc_H_look_87 : decode cb_H_look 87 = .ok (.getfield 119, 3) := by decide +kernel
theorem dc_H_look_90 : decode cb_H_look 90 = .ok (.ireturn, 1) := by decide +kernel
theorem dc_H_look_91 : decode cb_H_look 91 = .ok (.aload_n 3, 1) := by decide +kernel
theorem dc_H_look_92 : decode cb_H_look 92 = .ok (.getfield 122, 3) := by decide +kernel
theorem dc_H_look_95 : decode cb_H_look 95 = .ok (.getfield 119, 3) := by decide +kernel
theorem dc_H_look_98 : decode cb_H_look 98 = .ok (.ireturn, 1) := by decide +kernel
theorem dc_H_look_99 : decode cb_H_look 99 = .ok (.aload_n 3, 1) := by decide +kernel
theorem dc_H_look_100 : decode cb_H_look 100 = .ok (.getfield 125, 3) := by decide +kernel
theorem dc_H_look_103 : decode cb_H_look 103 = .ok (.ifCond .eq 7, 3) := by decide +kernel
theorem dc_H_look_106 : decode cb_H_look 106 = .ok (.iconst 1, 1) := by decide +kernel
theorem dc_H_look_107 : decode cb_H_look 107 = .ok (.goto 4, 3) := by decide +kernel
theorem dc_H_look_110 : decode cb_H_look 110 = .ok (.iconst 0, 1) := by decide +kernel
theorem dc_H_look_111 : decode cb_H_look 111 = .ok (.ireturn, 1) := by decide +kernel
theorem dc_H_look_112 : decode cb_H_look 112 = .ok (.aload_n 3, 1) := by decide +kernel
theorem dc_H_look_113 : decode cb_H_look 113 = .ok (.getfield 129, 3) := by decide +kernel
theorem dc_H_look_116 : decode cb_H_look 116 = .ok (.ireturn, 1) := by decide +kernel
theorem dc_H_look_117 : decode cb_H_look 117 = .ok (.aload_n 3, 1) := by decide +kernel
theorem dc_H_look_118 : decode cb_H_look 118 = .ok (.getfield 132, 3) := by decide +kernel
theorem dc_H_look_121 : decode cb_H_look 121 = .ok (.ireturn, 1) := by decide +kernel
theorem dc_H_look_122 : decode cb_H_look 122 = .ok (.aload_n 3, 1) := by decide +kernel
theorem dc_H_look_123 : decode cb_H_look 123 = .ok (.getfield 135, 3) := by decide +kernel
theorem dc_H_look_126 : decode cb_H_look 126 = .ok (.ireturn, 1) := by decide +kernel
theorem dc_H_look_127 : decode cb_H_look 127 = .ok (.aload_n 3, 1) := by decide +kernel
theorem dc_H_look_128 : decode cb_H_look 128 = .ok (.getfield 138, 3) := by decide +kernel
theorem dc_H_look_131 : decode cb_H_look 131 = .ok (.getfield 142, 3) := by decide +kernel
theorem dc_H_look_134 : decode cb_H_look 134 = .ok (.ireturn, 1) := by decide +kernel
theorem dc_H_look_135 : decode cb_H_look 135 = .ok (.new 143, 3) := by decide +kernel
theorem dc_H_look_138 : decode cb_H_look 138 = .ok (.dup, 1) := by decide +kernel
theorem dc_H_look_139 : decode cb_H_look 139 = .ok (.invokespecial 145, 3) := by decide +kernel
theorem dc_H_look_142 : decode cb_H_look 142 = .ok (.athrow, 1) := by decide +kernel
theorem dc_H_lock_0 : decode cb_H_lock 0 = .ok (.iload_n 1, 1) := by decide +kernel
theorem dc_H_lock_1 : decode cb_H_lock 1 = .ok (.iconst 3, 1) := by decide +kernel
theorem dc_H_lock_2 : decode cb_H_lock 2 = .ok (.invokestatic 46, 3) := by decide +kernel
theorem dc_H_lock_5 : decode cb_H_lock 5 = .ok (.iload_n 2, 1) := by decide +kernel
theorem dc_H_lock_6 : decode cb_H_lock 6 = .ok (.tableswitch 73 0 3 #[30, 40, 50, 63], 30) := by decide +kernel
theorem dc_H_lock_36 : decode cb_H_lock 36 = .ok (.aload_n 0, 1) := by decide +kernel
theorem dc_H_lock_37 : decode cb_H_lock 37 = .ok (.getfield 20, 3) := by decide +kernel
theorem dc_H_lock_40 : decode cb_H_lock 40 = .ok (.iload_n 1, 1) := by decide +kernel
theorem dc_H_lock_41 : decode cb_H_lock 41 = .ok (.aaload, 1) := by decide +kernel
theorem dc_H_lock_42 : decode cb_H_lock 42 = .ok (.getfield 146, 3) := by decide +kernel
theorem dc_H_lock_45 : decode cb_H_lock 45 = .ok (.ireturn, 1) := by decide +kernel
theorem dc_H_lock_46 : decode cb_H_lock 46 = .ok (.aload_n 0, 1) := by decide +kernel
theorem dc_H_lock_47 : decode cb_H_lock 47 = .ok (.getfield 20, 3) := by decide +kernel
theorem dc_H_lock_50 : decode cb_H_lock 50 = .ok (.iload_n 1, 1) := by decide +kernel
theorem dc_H_lock_51 : decode cb_H_lock 51 = .ok (.aaload, 1) := by decide +kernel
theorem dc_H_lock_52 : decode cb_H_lock 52 = .ok (.getfield 149, 3) := by decide +kernel
theorem dc_H_lock_55 : decode cb_H_lock 55 = .ok (.ireturn, 1) := by decide +kernel
theorem dc_H_lock_56 : decode cb_H_lock 56 = .ok (.aload_n 0, 1) := by decide +kernel
theorem dc_H_lock_57 : decode cb_H_lock 57 = .ok (.getfield 20, 3) := by decide +kernel
theorem dc_H_lock_60 : decode cb_H_lock 60 = .ok (.iload_n 1, 1) := by decide +kernel
theorem dc_H_lock_61 : decode cb_H_lock 61 = .ok (.aaload, 1) := by decide +kernel
theorem dc_H_lock_62 : decode cb_H_lock 62 = .ok (.getfield 152, 3) := by decide +kernel
theorem dc_H_lock_65 : decode cb_H_lock 65 = .ok (.getfield 142, 3) := by decide +kernel
theorem dc_H_lock_68 : decode cb_H_lock 68 = .ok (.ireturn, 1) := by decide +kernel
theorem dc_H_lock_69 : decode cb_H_lock 69 = .ok (.aload_n 0, 1) := by decide +kernel
theorem dc_H_lock_70 : decode cb_H_lock 70 = .ok (.getfield 27, 3) := by decide +kernel
theorem dc_H_lock_73 : decode cb_H_lock 73 = .ok (.iload_n 1, 1) := by decide +kernel
theorem dc_H_lock_74 : decode cb_H_lock 74 = .ok (.aaload, 1) := by decide +kernel
theorem dc_H_lock_75 : decode cb_H_lock 75 = .ok (.getfield 142, 3) := by decide +kernel
theorem dc_H_lock_78 : decode cb_H_lock 78 = .ok (.ireturn, 1) := by decide +kernel
theorem dc_H_lock_79 : decode cb_H_lock 79 = .ok (.new 143, 3) := by decide +kernel
theorem dc_H_lock_82 : decode cb_H_lock 82 = .ok (.dup, 1) := by decide +kernel
theorem dc_H_lock_83 : decode cb_H_lock 83 = .ok (.invokespecial 145, 3) := by decide +kernel
theorem dc_H_lock_86 : decode cb_H_lock 86 = .ok (.athrow, 1) := by decide +kernel
theorem dc_H_said_0 : decode cb_H_said 0 = .ok (.iload_n 1, 1) := by decide +kernel
theorem dc_H_said_1 : decode cb_H_said 1 = .ok (.ifCond .lt 17, 3) := by decide +kernel
theorem dc_H_said_4 : decode cb_H_said 4 = .ok (.iload_n 1, 1) := by decide +kernel
theorem dc_H_said_5 : decode cb_H_said 5 = .ok (.aload_n 0, 1) := by decide +kernel
theorem dc_H_said_6 : decode cb_H_said 6 = .ok (.getfield 155, 3) := by decide +kernel
theorem dc_H_said_9 : decode cb_H_said 9 = .ok (.if_icmp .ge 9, 3) := by decide +kernel
theorem dc_H_said_12 : decode cb_H_said 12 = .ok (.iload_n 1, 1) := by decide +kernel
theorem dc_H_said_13 : decode cb_H_said 13 = .ok (.bipush 40, 2) := by decide +kernel
theorem dc_H_said_15 : decode cb_H_said 15 = .ok (.if_icmp .lt 11, 3) := by decide +kernel
theorem dc_H_said_18 : decode cb_H_said 18 = .ok (.new 72, 3) := by decide +kernel
theorem dc_H_said_21 : decode cb_H_said 21 = .ok (.dup, 1) := by decide +kernel
theorem dc_H_said_22 : decode cb_H_said 22 = .ok (.invokespecial 74, 3) := by decide +kernel
theorem dc_H_said_25 : decode cb_H_said 25 = .ok (.athrow, 1) := by decide +kernel
theorem dc_H_said_26 : decode cb_H_said 26 = .ok (.aload_n 0, 1) := by decide +kernel
theorem dc_H_said_27 : decode cb_H_said 27 = .ok (.getfield 36, 3) := by decide +kernel
theorem dc_H_said_30 : decode cb_H_said 30 = .ok (.iload_n 1, 1) := by decide +kernel
theorem dc_H_said_31 : decode cb_H_said 31 = .ok (.iaload, 1) := by decide +kernel
theorem dc_H_said_32 : decode cb_H_said 32 = .ok (.ireturn, 1) := by decide +kernel
theorem dc_H_count_0 : decode cb_H_count 0 = .ok (.iload_n 1, 1) := by decide +kernel
theorem dc_H_count_1 : decode cb_H_count 1 = .ok (.tableswitch 87 0 7 #[47, 52, 57, 62, 67, 72, 77, 82], 47) := by decide +kernel
theorem dc_H_count_48 : decode cb_H_count 48 = .ok (.aload_n 0, 1) := by decide +kernel
theorem dc_H_count_49 : decode cb_H_count 49 = .ok (.getfield 155, 3) := by decide +kernel
theorem dc_H_count_52 : decode cb_H_count 52 = .ok (.ireturn, 1) := by decide +kernel
theorem dc_H_count_53 : decode cb_H_count 53 = .ok (.aload_n 0, 1) := by decide +kernel
theorem dc_H_count_54 : decode cb_H_count 54 = .ok (.getfield 89, 3) := by decide +kernel
theorem dc_H_count_57 : decode cb_H_count 57 = .ok (.ireturn, 1) := by decide +kernel
theorem dc_H_count_58 : decode cb_H_count 58 = .ok (.aload_n 0, 1) := by decide +kernel
theorem dc_H_count_59 : decode cb_H_count 59 = .ok (.getfield 158, 3) := by decide +kernel
theorem dc_H_count_62 : decode cb_H_count 62 = .ok (.ireturn, 1) := by decide +kernel
theorem dc_H_count_63 : decode cb_H_count 63 = .ok (.aload_n 0, 1) := by decide +kernel
theorem dc_H_count_64 : decode cb_H_count 64 = .ok (.invokevirtual 161, 3) := by decide +kernel
theorem dc_H_count_67 : decode cb_H_count 67 = .ok (.ireturn, 1) := by decide +kernel
theorem dc_H_count_68 : decode cb_H_count 68 = .ok (.aload_n 0, 1) := by decide +kernel
theorem dc_H_count_69 : decode cb_H_count 69 = .ok (.invokevirtual 164, 3) := by decide +kernel
theorem dc_H_count_72 : decode cb_H_count 72 = .ok (.ireturn, 1) := by decide +kernel
theorem dc_H_count_73 : decode cb_H_count 73 = .ok (.aload_n 0, 1) := by decide +kernel
theorem dc_H_count_74 : decode cb_H_count 74 = .ok (.getfield 167, 3) := by decide +kernel
theorem dc_H_count_77 : decode cb_H_count 77 = .ok (.ireturn, 1) := by decide +kernel
theorem dc_H_count_78 : decode cb_H_count 78 = .ok (.aload_n 0, 1) := by decide +kernel
theorem dc_H_count_79 : decode cb_H_count 79 = .ok (.getfield 43, 3) := by decide +kernel
theorem dc_H_count_82 : decode cb_H_count 82 = .ok (.ireturn, 1) := by decide +kernel
theorem dc_H_count_83 : decode cb_H_count 83 = .ok (.aload_n 0, 1) := by decide +kernel
theorem dc_H_count_84 : decode cb_H_count 84 = .ok (.getfield 170, 3) := by decide +kernel
theorem dc_H_count_87 : decode cb_H_count 87 = .ok (.ireturn, 1) := by decide +kernel
theorem dc_H_count_88 : decode cb_H_count 88 = .ok (.new 143, 3) := by decide +kernel
theorem dc_H_count_91 : decode cb_H_count 91 = .ok (.dup, 1) := by decide +kernel
theorem dc_H_count_92 : decode cb_H_count 92 = .ok (.invokespecial 145, 3) := by decide +kernel
theorem dc_H_count_95 : decode cb_H_count 95 = .ok (.athrow, 1) := by decide +kernel
theorem dc_O_is_0 : decode cb_O_is 0 = .ok (.iload_n 0, 1) := by decide +kernel
theorem dc_O_is_1 : decode cb_O_is 1 = .ok (.iload_n 1, 1) := by decide +kernel
theorem dc_O_is_2 : decode cb_O_is 2 = .ok (.if_icmp .lt 12, 3) := by decide +kernel
theorem dc_O_is_5 : decode cb_O_is 5 = .ok (.iload_n 0, 1) := by decide +kernel
theorem dc_O_is_6 : decode cb_O_is 6 = .ok (.iload_n 2, 1) := by decide +kernel
theorem dc_O_is_7 : decode cb_O_is 7 = .ok (.if_icmp .gt 7, 3) := by decide +kernel
theorem dc_O_is_10 : decode cb_O_is 10 = .ok (.iconst 1, 1) := by decide +kernel
theorem dc_O_is_11 : decode cb_O_is 11 = .ok (.goto 4, 3) := by decide +kernel
theorem dc_O_is_14 : decode cb_O_is 14 = .ok (.iconst 0, 1) := by decide +kernel
theorem dc_O_is_15 : decode cb_O_is 15 = .ok (.ireturn, 1) := by decide +kernel
theorem dc_O_fits_0 : decode cb_O_fits 0 = .ok (.iload_n 0, 1) := by decide +kernel
theorem dc_O_fits_1 : decode cb_O_fits 1 = .ok (.tableswitch 245 0 19 #[95, 95, 102, 95, 95, 126, 126, 133, 157, 126, 126, 181, 188, 181, 212, 95, 212, 220, 95, 95], 95) := by decide +kernel
theorem dc_O_fits_96 : decode cb_O_fits 96 = .ok (.iload_n 1, 1) := by decide +kernel
theorem dc_O_fits_97 : decode cb_O_fits 97 = .ok (.iconst 0, 1) := by decide +kernel
theorem dc_O_fits_98 : decode cb_O_fits 98 = .ok (.iconst 3, 1) := by decide +kernel
theorem dc_O_fits_99 : decode cb_O_fits 99 = .ok (.invokestatic 117, 3) := by decide +kernel
theorem dc_O_fits_102 : decode cb_O_fits 102 = .ok (.ireturn, 1) := by decide +kernel
theorem dc_O_fits_103 : decode cb_O_fits 103 = .ok (.iload_n 1, 1) := by decide +kernel
theorem dc_O_fits_104 : decode cb_O_fits 104 = .ok (.iconst 0, 1) := by decide +kernel
theorem dc_O_fits_105 : decode cb_O_fits 105 = .ok (.iconst 3, 1) := by decide +kernel
theorem dc_O_fits_106 : decode cb_O_fits 106 = .ok (.invokestatic 117, 3) := by decide +kernel
theorem dc_O_fits_109 : decode cb_O_fits 109 = .ok (.ifCond .eq 16, 3) := by decide +kernel
theorem dc_O_fits_112 : decode cb_O_fits 112 = .ok (.iload_n 2, 1) := by decide +kernel
theorem dc_O_fits_113 : decode cb_O_fits 113 = .ok (.iconst 0, 1) := by decide +kernel
theorem dc_O_fits_114 : decode cb_O_fits 114 = .ok (.iconst 3, 1) := by decide +kernel
theorem dc_O_fits_115 : decode cb_O_fits 115 = .ok (.invokestatic 117, 3) := by decide +kernel
theorem dc_O_fits_118 : decode cb_O_fits 118 = .ok (.ifCond .eq 7, 3) := by decide +kernel
theorem dc_O_fits_121 : decode cb_O_fits 121 = .ok (.iconst 1, 1) := by decide +kernel
theorem dc_O_fits_122 : decode cb_O_fits 122 = .ok (.goto 4, 3) := by decide +kernel
theorem dc_O_fits_125 : decode cb_O_fits 125 = .ok (.iconst 0, 1) := by decide +kernel
theorem dc_O_fits_126 : decode cb_O_fits 126 = .ok (.ireturn, 1) := by decide +kernel
theorem dc_O_fits_127 : decode cb_O_fits 127 = .ok (.iload_n 1, 1) := by decide +kernel
theorem dc_O_fits_128 : decode cb_O_fits 128 = .ok (.iconst 0, 1) := by decide +kernel
theorem dc_O_fits_129 : decode cb_O_fits 129 = .ok (.iconst 2, 1) := by decide +kernel
theorem dc_O_fits_130 : decode cb_O_fits 130 = .ok (.invokestatic 117, 3) := by decide +kernel
theorem dc_O_fits_133 : decode cb_O_fits 133 = .ok (.ireturn, 1) := by decide +kernel
theorem dc_O_fits_134 : decode cb_O_fits 134 = .ok (.iload_n 1, 1) := by decide +kernel
theorem dc_O_fits_135 : decode cb_O_fits 135 = .ok (.iconst 0, 1) := by decide +kernel
theorem dc_O_fits_136 : decode cb_O_fits 136 = .ok (.iconst 2, 1) := by decide +kernel
theorem dc_O_fits_137 : decode cb_O_fits 137 = .ok (.invokestatic 117, 3) := by decide +kernel
theorem dc_O_fits_140 : decode cb_O_fits 140 = .ok (.ifCond .eq 16, 3) := by decide +kernel
theorem dc_O_fits_143 : decode cb_O_fits 143 = .ok (.iload_n 2, 1) := by decide +kernel
theorem dc_O_fits_144 : decode cb_O_fits 144 = .ok (.iconst 0, 1) := by decide +kernel
theorem dc_O_fits_145 : decode cb_O_fits 145 = .ok (.iconst 3, 1) := by decide +kernel
theorem dc_O_fits_146 : decode cb_O_fits 146 = .ok (.invokestatic 117, 3) := by decide +kernel
theorem dc_O_fits_149 : decode cb_O_fits 149 = .ok (.ifCond .eq 7, 3) := by decide +kernel
theorem dc_O_fits_152 : decode cb_O_fits 152 = .ok (.iconst 1, 1) := by decide +kernel
theorem dc_O_fits_153 : decode cb_O_fits 153 = .ok (.goto 4, 3) := by decide +kernel
theorem dc_O_fits_156 : decode cb_O_fits 156 = .ok (.iconst 0, 1) := by decide +kernel
theorem dc_O_fits_157 : decode cb_O_fits 157 = .ok (.ireturn, 1) := by decide +kernel
theorem dc_O_fits_158 : decode cb_O_fits 158 = .ok (.iload_n 1, 1) := by decide +kernel
theorem dc_O_fits_159 : decode cb_O_fits 159 = .ok (.iconst 0, 1) := by decide +kernel
theorem dc_O_fits_160 : decode cb_O_fits 160 = .ok (.iconst 2, 1) := by decide +kernel
theorem dc_O_fits_161 : decode cb_O_fits 161 = .ok (.invokestatic 117, 3) := by decide +kernel
theorem dc_O_fits_164 : decode cb_O_fits 164 = .ok (.ifCond .eq 16, 3) := by decide +kernel
theorem dc_O_fits_167 : decode cb_O_fits 167 = .ok (.iload_n 2, 1) := by decide +kernel
theorem dc_O_fits_168 : decode cb_O_fits 168 = .ok (.iconst 0, 1) := by decide +kernel
theorem dc_O_fits_169 : decode cb_O_fits 169 = .ok (.iconst 2, 1) := by decide +kernel
theorem dc_O_fits_170 : decode cb_O_fits 170 = .ok (.invokestatic 117, 3) := by decide +kernel
theorem dc_O_fits_173 : decode cb_O_fits 173 = .ok (.ifCond .eq 7, 3) := by decide +kernel
theorem dc_O_fits_176 : decode cb_O_fits 176 = .ok (.iconst 1, 1) := by decide +kernel
theorem dc_O_fits_177 : decode cb_O_fits 177 = .ok (.goto 4, 3) := by decide +kernel
theorem dc_O_fits_180 : decode cb_O_fits 180 = .ok (.iconst 0, 1) := by decide +kernel
theorem dc_O_fits_181 : decode cb_O_fits 181 = .ok (.ireturn, 1) := by decide +kernel
theorem dc_O_fits_182 : decode cb_O_fits 182 = .ok (.iload_n 1, 1) := by decide +kernel
theorem dc_O_fits_183 : decode cb_O_fits 183 = .ok (.iconst 0, 1) := by decide +kernel
theorem dc_O_fits_184 : decode cb_O_fits 184 = .ok (.iconst 4, 1) := by decide +kernel
theorem dc_O_fits_185 : decode cb_O_fits 185 = .ok (.invokestatic 117, 3) := by decide +kernel
theorem dc_O_fits_188 : decode cb_O_fits 188 = .ok (.ireturn, 1) := by decide +kernel
theorem dc_O_fits_189 : decode cb_O_fits 189 = .ok (.iload_n 1, 1) := by decide +kernel
theorem dc_O_fits_190 : decode cb_O_fits 190 = .ok (.iconst 0, 1) := by decide +kernel
theorem dc_O_fits_191 : decode cb_O_fits 191 = .ok (.iconst 4, 1) := by decide +kernel
theorem dc_O_fits_192 : decode cb_O_fits 192 = .ok (.invokestatic 117, 3) := by decide +kernel
theorem dc_O_fits_195 : decode cb_O_fits 195 = .ok (.ifCond .eq 16, 3) := by decide +kernel
theorem dc_O_fits_198 : decode cb_O_fits 198 = .ok (.iload_n 2, 1) := by decide +kernel
theorem dc_O_fits_199 : decode cb_O_fits 199 = .ok (.iconst 0, 1) := by decide +kernel
theorem dc_O_fits_200 : decode cb_O_fits 200 = .ok (.iconst 3, 1) := by decide +kernel
theorem dc_O_fits_201 : decode cb_O_fits 201 = .ok (.invokestatic 117, 3) := by decide +kernel
theorem dc_O_fits_204 : decode cb_O_fits 204 = .ok (.ifCond .eq 7, 3) := by decide +kernel
theorem dc_O_fits_207 : decode cb_O_fits 207 = .ok (.iconst 1, 1) := by decide +kernel
theorem dc_O_fits_208 : decode cb_O_fits 208 = .ok (.goto 4, 3) := by decide +kernel
theorem dc_O_fits_211 : decode cb_O_fits 211 = .ok (.iconst 0, 1) := by decide +kernel
theorem dc_O_fits_212 : decode cb_O_fits 212 = .ok (.ireturn, 1) := by decide +kernel
theorem dc_O_fits_213 : decode cb_O_fits 213 = .ok (.iload_n 1, 1) := by decide +kernel
theorem dc_O_fits_214 : decode cb_O_fits 214 = .ok (.iconst 0, 1) := by decide +kernel
theorem dc_O_fits_215 : decode cb_O_fits 215 = .ok (.bipush 24, 2) := by decide +kernel
theorem dc_O_fits_217 : decode cb_O_fits 217 = .ok (.invokestatic 117, 3) := by decide +kernel
theorem dc_O_fits_220 : decode cb_O_fits 220 = .ok (.ireturn, 1) := by decide +kernel
theorem dc_O_fits_221 : decode cb_O_fits 221 = .ok (.iload_n 1, 1) := by decide +kernel
theorem dc_O_fits_222 : decode cb_O_fits 222 = .ok (.iconst 0, 1) := by decide +kernel
theorem dc_O_fits_223 : decode cb_O_fits 223 = .ok (.iconst 3, 1) := by decide +kernel
theorem dc_O_fits_224 : decode cb_O_fits 224 = .ok (.invokestatic 117, 3) := by decide +kernel
theorem dc_O_fits_227 : decode cb_O_fits 227 = .ok (.ifCond .eq 17, 3) := by decide +kernel
theorem dc_O_fits_230 : decode cb_O_fits 230 = .ok (.iload_n 2, 1) := by decide +kernel
theorem dc_O_fits_231 : decode cb_O_fits 231 = .ok (.iconst 0, 1) := by decide +kernel
theorem dc_O_fits_232 : decode cb_O_fits 232 = .ok (.bipush 24, 2) := by decide +kernel
theorem dc_O_fits_234 : decode cb_O_fits 234 = .ok (.invokestatic 117, 3) := by decide +kernel
theorem dc_O_fits_237 : decode cb_O_fits 237 = .ok (.ifCond .eq 7, 3) := by decide +kernel
theorem dc_O_fits_240 : decode cb_O_fits 240 = .ok (.iconst 1, 1) := by decide +kernel
theorem dc_O_fits_241 : decode cb_O_fits 241 = .ok (.goto 4, 3) := by decide +kernel
theorem dc_O_fits_244 : decode cb_O_fits 244 = .ok (.iconst 0, 1) := by decide +kernel
theorem dc_O_fits_245 : decode cb_O_fits 245 = .ok (.ireturn, 1) := by decide +kernel
theorem dc_O_fits_246 : decode cb_O_fits 246 = .ok (.iload_n 0, 1) := by decide +kernel
theorem dc_O_fits_247 : decode cb_O_fits 247 = .ok (.bipush 20, 2) := by decide +kernel
theorem dc_O_fits_249 : decode cb_O_fits 249 = .ok (.if_icmp .ne 7, 3) := by decide +kernel
theorem dc_O_fits_252 : decode cb_O_fits 252 = .ok (.iconst 1, 1) := by decide +kernel
theorem dc_O_fits_253 : decode cb_O_fits 253 = .ok (.goto 4, 3) := by decide +kernel
theorem dc_O_fits_256 : decode cb_O_fits 256 = .ok (.iconst 0, 1) := by decide +kernel
theorem dc_O_fits_257 : decode cb_O_fits 257 = .ok (.ireturn, 1) := by decide +kernel
theorem dc_O_refuse_0 : decode cb_O_refuse 0 = .ok (.aload_n 0, 1) := by decide +kernel
theorem dc_O_refuse_1 : decode cb_O_refuse 1 = .ok (.iload_n 1, 1) := by decide +kernel
theorem dc_O_refuse_2 : decode cb_O_refuse 2 = .ok (.putfield 114, 3) := by decide +kernel
theorem dc_O_refuse_5 : decode cb_O_refuse 5 = .ok (.iconst 0, 1) := by decide +kernel
theorem dc_O_refuse_6 : decode cb_O_refuse 6 = .ok (.ireturn, 1) := by decide +kernel
theorem dc_O_thrown_0 : decode cb_O_thrown 0 = .ok (.aload_n 0, 1) := by decide +kernel
theorem dc_O_thrown_1 : decode cb_O_thrown 1 = .ok (.getfield 114, 3) := by decide +kernel
theorem dc_O_thrown_4 : decode cb_O_thrown 4 = .ok (.ireturn, 1) := by decide +kernel
theorem dc_O_alive_0 : decode cb_O_alive 0 = .ok (.aload_n 0, 1) := by decide +kernel
theorem dc_O_alive_1 : decode cb_O_alive 1 = .ok (.getfield 43, 3) := by decide +kernel
theorem dc_O_alive_4 : decode cb_O_alive 4 = .ok (.iload_n 1, 1) := by decide +kernel
theorem dc_O_alive_5 : decode cb_O_alive 5 = .ok (.iaload, 1) := by decide +kernel
theorem dc_O_alive_6 : decode cb_O_alive 6 = .ok (.ifCond .eq 17, 3) := by decide +kernel
theorem dc_O_alive_9 : decode cb_O_alive 9 = .ok (.aload_n 0, 1) := by decide +kernel
theorem dc_O_alive_10 : decode cb_O_alive 10 = .ok (.getfield 43, 3) := by decide +kernel
theorem dc_O_alive_13 : decode cb_O_alive 13 = .ok (.iload_n 1, 1) := by decide +kernel
theorem dc_O_alive_14 : decode cb_O_alive 14 = .ok (.iaload, 1) := by decide +kernel
theorem dc_O_alive_15 : decode cb_O_alive 15 = .ok (.iconst 5, 1) := by decide +kernel
theorem dc_O_alive_16 : decode cb_O_alive 16 = .ok (.if_icmp .eq 7, 3) := by decide +kernel
theorem dc_O_alive_19 : decode cb_O_alive 19 = .ok (.iconst 1, 1) := by decide +kernel
theorem dc_O_alive_20 : decode cb_O_alive 20 = .ok (.goto 4, 3) := by decide +kernel
theorem dc_O_alive_23 : decode cb_O_alive 23 = .ok (.iconst 0, 1) := by decide +kernel
theorem dc_O_alive_24 : decode cb_O_alive 24 = .ok (.ireturn, 1) := by decide +kernel
theorem dc_O_bound_0 : decode cb_O_bound 0 = .ok (.aload_n 0, 1) := by decide +kernel
theorem dc_O_bound_1 : decode cb_O_bound 1 = .ok (.getfield 31, 3) := by decide +kernel
theorem dc_O_bound_4 : decode cb_O_bound 4 = .ok (.iload_n 1, 1) := by decide +kernel
theorem dc_O_bound_5 : decode cb_O_bound 5 = .ok (.iaload, 1) := by decide +kernel
theorem dc_O_bound_6 : decode cb_O_bound 6 = .ok (.iconst 1, 1) := by decide +kernel
theorem dc_O_bound_7 : decode cb_O_bound 7 = .ok (.isub, 1) := by decide +kernel
theorem dc_O_bound_8 : decode cb_O_bound 8 = .ok (.istore_n 3, 1) := by decide +kernel
theorem dc_O_bound_9 : decode cb_O_bound 9 = .ok (.iload_n 3, 1) := by decide +kernel
theorem dc_O_bound_10 : decode cb_O_bound 10 = .ok (.ifCond .lt 31, 3) := by decide +kernel
theorem dc_O_bound_13 : decode cb_O_bound 13 = .ok (.aload_n 0, 1) := by decide +kernel
theorem dc_O_bound_14 : decode cb_O_bound 14 = .ok (.getfield 25, 3) := by decide +kernel
theorem dc_O_bound_17 : decode cb_O_bound 17 = .ok (.bipush 12, 2) := by decide +kernel
theorem dc_O_bound_19 : decode cb_O_bound 19 = .ok (.iload_n 1, 1) := by decide +kernel
theorem dc_O_bound_20 : decode cb_O_bound 20 = .ok (.imul, 1) := by decide +kernel
theorem dc_O_bound_21 : decode cb_O_bound 21 = .ok (.iload_n 3, 1) := by decide +kernel
theorem dc_O_bound_22 : decode cb_O_bound 22 = .ok (.iadd, 1) := by decide +kernel
theorem dc_O_bound_23 : decode cb_O_bound 23 = .ok (.iaload, 1) := by decide +kernel
theorem dc_O_bound_24 : decode cb_O_bound 24 = .ok (.iload_n 2, 1) := by decide +kernel
theorem dc_O_bound_25 : decode cb_O_bound 25 = .ok (.if_icmp .ne 10, 3) := by decide +kernel
theorem dc_O_bound_28 : decode cb_O_bound 28 = .ok (.bipush 12, 2) := by decide +kernel
theorem dc_O_bound_30 : decode cb_O_bound 30 = .ok (.iload_n 1, 1) := by decide +kernel
theorem dc_O_bound_31 : decode cb_O_bound 31 = .ok (.imul, 1) := by decide +kernel
theorem dc_O_bound_32 : decode cb_O_bound 32 = .ok (.iload_n 3, 1) := by decide +kernel
theorem dc_O_bound_33 : decode cb_O_bound 33 = .ok (.iadd, 1) := by decide +kernel
theorem dc_O_bound_34 : decode cb_O_bound 34 = .ok (.ireturn, 1) := by decide +kernel
theorem dc_O_bound_35 : decode cb_O_bound 35 = .ok (.iinc 3 (-1), 3) := by decide +kernel
theorem dc_O_bound_38 : decode cb_O_bound 38 = .ok (.goto (-29), 3) := by decide +kernel
theorem dc_O_bound_41 : decode cb_O_bound 41 = .ok (.iconst (-1), 1) := by decide +kernel
theorem dc_O_bound_42 : decode cb_O_bound 42 = .ok (.ireturn, 1) := by decide +kernel
theorem dc_O_get_0 : decode cb_O_get 0 = .ok (.aload_n 0, 1) := by decide +kernel
theorem dc_O_get_1 : decode cb_O_get 1 = .ok (.iload_n 1, 1) := by decide +kernel
theorem dc_O_get_2 : decode cb_O_get 2 = .ok (.iload_n 2, 1) := by decide +kernel
theorem dc_O_get_3 : decode cb_O_get 3 = .ok (.invokevirtual 132, 3) := by decide +kernel
theorem dc_O_get_6 : decode cb_O_get 6 = .ok (.istore_n 3, 1) := by decide +kernel
theorem dc_O_get_7 : decode cb_O_get 7 = .ok (.iload_n 3, 1) := by decide +kernel
theorem dc_O_get_8 : decode cb_O_get 8 = .ok (.ifCond .ge 12, 3) := by decide +kernel
theorem dc_O_get_11 : decode cb_O_get 11 = .ok (.aload_n 0, 1) := by decide +kernel
theorem dc_O_get_12 : decode cb_O_get 12 = .ok (.getfield 22, 3) := by decide +kernel
theorem dc_O_get_15 : decode cb_O_get 15 = .ok (.iload_n 2, 1) := by decide +kernel
theorem dc_O_get_16 : decode cb_O_get 16 = .ok (.iaload, 1) := by decide +kernel
theorem dc_O_get_17 : decode cb_O_get 17 = .ok (.goto 9, 3) := by decide +kernel
theorem dc_O_get_20 : decode cb_O_get 20 = .ok (.aload_n 0, 1) := by decide +kernel
theorem dc_O_get_21 : decode cb_O_get 21 = .ok (.getfield 28, 3) := by decide +kernel
theorem dc_O_get_24 : decode cb_O_get 24 = .ok (.iload_n 3, 1) := by decide +kernel
theorem dc_O_get_25 : decode cb_O_get 25 = .ok (.iaload, 1) := by decide +kernel
theorem dc_O_get_26 : decode cb_O_get 26 = .ok (.ireturn, 1) := by decide +kernel
theorem dc_O_begin_0 : decode cb_O_begin 0 = .ok (.aload_n 0, 1) := by decide +kernel
theorem dc_O_begin_1 : decode cb_O_begin 1 = .ok (.iload_n 1, 1) := by decide +kernel
theorem dc_O_begin_2 : decode cb_O_begin 2 = .ok (.invokevirtual 128, 3) := by decide +kernel
theorem dc_O_begin_5 : decode cb_O_begin 5 = .ok (.ifCond .eq 5, 3) := by decide +kernel
theorem dc_O_begin_8 : decode cb_O_begin 8 = .ok (.iconst 0, 1) := by decide +kernel
theorem dc_O_begin_9 : decode cb_O_begin 9 = .ok (.ireturn, 1) := by decide +kernel
theorem dc_O_begin_10 : decode cb_O_begin 10 = .ok (.aload_n 0, 1) := by decide +kernel
theorem dc_O_begin_11 : decode cb_O_begin 11 = .ok (.getfield 43, 3) := by decide +kernel
theorem dc_O_begin_14 : decode cb_O_begin 14 = .ok (.iload_n 1, 1) := by decide +kernel
theorem dc_O_begin_15 : decode cb_O_begin 15 = .ok (.iconst 1, 1) := by decide +kernel
theorem dc_O_begin_16 : decode cb_O_begin 16 = .ok (.iastore, 1) := by decide +kernel
theorem dc_O_begin_17 : decode cb_O_begin 17 = .ok (.aload_n 0, 1) := by decide +kernel
theorem dc_O_begin_18 : decode cb_O_begin 18 = .ok (.getfield 46, 3) := by decide +kernel
theorem dc_O_begin_21 : decode cb_O_begin 21 = .ok (.iload_n 1, 1) := by decide +kernel
theorem dc_O_begin_22 : decode cb_O_begin 22 = .ok (.iconst 0, 1) := by decide +kernel
theorem dc_O_begin_23 : decode cb_O_begin 23 = .ok (.iastore, 1) := by decide +kernel
theorem dc_O_begin_24 : decode cb_O_begin 24 = .ok (.aload_n 0, 1) := by decide +kernel
theorem dc_O_begin_25 : decode cb_O_begin 25 = .ok (.getfield 31, 3) := by decide +kernel
theorem dc_O_begin_28 : decode cb_O_begin 28 = .ok (.iload_n 1, 1) := by decide +kernel
theorem dc_O_begin_29 : decode cb_O_begin 29 = .ok (.iconst 0, 1) := by decide +kernel
theorem dc_O_begin_30 : decode cb_O_begin 30 = .ok (.iastore, 1) := by decide +kernel
theorem dc_O_begin_31 : decode cb_O_begin 31 = .ok (.aload_n 0, 1) := by decide +kernel
theorem dc_O_begin_32 : decode cb_O_begin 32 = .ok (.getfield 40, 3) := by decide +kernel
theorem dc_O_begin_35 : decode cb_O_begin 35 = .ok (.iload_n 1, 1) := by decide +kernel
theorem dc_O_begin_36 : decode cb_O_begin 36 = .ok (.iconst 0, 1) := by decide +kernel
theorem dc_O_begin_37 : decode cb_O_begin 37 = .ok (.iastore, 1) := by decide +kernel
theorem dc_O_begin_38 : decode cb_O_begin 38 = .ok (.aload_n 0, 1) := by decide +kernel
theorem dc_O_begin_39 : decode cb_O_begin 39 = .ok (.getfield 52, 3) := by decide +kernel
theorem dc_O_begin_42 : decode cb_O_begin 42 = .ok (.iload_n 1, 1) := by decide +kernel
theorem dc_O_begin_43 : decode cb_O_begin 43 = .ok (.bipush 24, 2) := by decide +kernel
theorem dc_O_begin_45 : decode cb_O_begin 45 = .ok (.iastore, 1) := by decide +kernel
theorem dc_O_begin_46 : decode cb_O_begin 46 = .ok (.aload_n 0, 1) := by decide +kernel
theorem dc_O_begin_47 : decode cb_O_begin 47 = .ok (.getfield 73, 3) := by decide +kernel
theorem dc_O_begin_50 : decode cb_O_begin 50 = .ok (.iload_n 1, 1) := by decide +kernel
theorem dc_O_begin_51 : decode cb_O_begin 51 = .ok (.iconst 0, 1) := by decide +kernel
theorem dc_O_begin_52 : decode cb_O_begin 52 = .ok (.bastore, 1) := by decide +kernel
theorem dc_O_begin_53 : decode cb_O_begin 53 = .ok (.aload_n 0, 1) := by decide +kernel
theorem dc_O_begin_54 : decode cb_O_begin 54 = .ok (.getfield 77, 3) := by decide +kernel
theorem dc_O_begin_57 : decode cb_O_begin 57 = .ok (.iload_n 1, 1) := by decide +kernel
theorem dc_O_begin_58 : decode cb_O_begin 58 = .ok (.iconst 0, 1) := by decide +kernel
theorem dc_O_begin_59 : decode cb_O_begin 59 = .ok (.bastore, 1) := by decide +kernel
theorem dc_O_begin_60 : decode cb_O_begin 60 = .ok (.aload_n 0, 1) := by decide +kernel
theorem dc_O_begin_61 : decode cb_O_begin 61 = .ok (.getfield 55, 3) := by decide +kernel
theorem dc_O_begin_64 : decode cb_O_begin 64 = .ok (.iload_n 1, 1) := by decide +kernel
theorem dc_O_begin_65 : decode cb_O_begin 65 = .ok (.iconst 0, 1) := by decide +kernel
theorem dc_O_begin_66 : decode cb_O_begin 66 = .ok (.iastore, 1) := by decide +kernel
theorem dc_O_begin_67 : decode cb_O_begin 67 = .ok (.aload_n 0, 1) := by decide +kernel
theorem dc_O_begin_68 : decode cb_O_begin 68 = .ok (.getfield 58, 3) := by decide +kernel
theorem dc_O_begin_71 : decode cb_O_begin 71 = .ok (.iload_n 1, 1) := by decide +kernel
theorem dc_O_begin_72 : decode cb_O_begin 72 = .ok (.dup2, 1) := by decide +kernel
theorem dc_O_begin_73 : decode cb_O_begin 73 = .ok (.iaload, 1) := by decide +kernel
theorem dc_O_begin_74 : decode cb_O_begin 74 = .ok (.iconst 1, 1) := by decide +kernel
theorem dc_O_begin_75 : decode cb_O_begin 75 = .ok (.iadd, 1) := by decide +kernel
theorem dc_O_begin_76 : decode cb_O_begin 76 = .ok (.iastore, 1) := by decide +kernel
theorem dc_O_begin_77 : decode cb_O_begin 77 = .ok (.iconst 1, 1) := by decide +kernel
theorem dc_O_begin_78 : decode cb_O_begin 78 = .ok (.ireturn, 1) := by decide +kernel
theorem dc_O_interrupted_0 : decode cb_O_interrupted 0 = .ok (.aload_n 0, 1) := by decide +kernel
theorem dc_O_interrupted_1 : decode cb_O_interrupted 1 = .ok (.iload_n 1, 1) := by decide +kernel
theorem dc_O_interrupted_2 : decode cb_O_interrupted 2 = .ok (.invokevirtual 128, 3) := by decide +kernel
theorem dc_O_interrupted_5 : decode cb_O_interrupted 5 = .ok (.ifCond .ne 5, 3) := by decide +kernel
theorem dc_O_interrupted_8 : decode cb_O_interrupted 8 = .ok (.iconst 0, 1) := by decide +kernel
theorem dc_O_interrupted_9 : decode cb_O_interrupted 9 = .ok (.ireturn, 1) := by decide +kernel
theorem dc_O_interrupted_10 : decode cb_O_interrupted 10 = .ok (.aload_n 0, 1) := by decide +kernel
theorem dc_O_interrupted_11 : decode cb_O_interrupted 11 = .ok (.getfield 43, 3) := by decide +kernel
theorem dc_O_interrupted_14 : decode cb_O_interrupted 14 = .ok (.iload_n 1, 1) := by decide +kernel
theorem dc_O_interrupted_15 : decode cb_O_interrupted 15 = .ok (.iaload, 1) := by decide +kernel
theorem dc_O_interrupted_16 : decode cb_O_interrupted 16 = .ok (.iconst 3, 1) := by decide +kernel
theorem dc_O_interrupted_17 : decode cb_O_interrupted 17 = .ok (.if_icmp .ne 18, 3) := by decide +kernel
theorem dc_O_interrupted_20 : decode cb_O_interrupted 20 = .ok (.aload_n 0, 1) := by decide +kernel
theorem dc_O_interrupted_21 : decode cb_O_interrupted 21 = .ok (.getfield 77, 3) := by decide +kernel
theorem dc_O_interrupted_24 : decode cb_O_interrupted 24 = .ok (.iload_n 1, 1) := by decide +kernel
theorem dc_O_interrupted_25 : decode cb_O_interrupted 25 = .ok (.iconst 1, 1) := by decide +kernel
theorem dc_O_interrupted_26 : decode cb_O_interrupted 26 = .ok (.bastore, 1) := by decide +kernel
theorem dc_O_interrupted_27 : decode cb_O_interrupted 27 = .ok (.aload_n 0, 1) := by decide +kernel
theorem dc_O_interrupted_28 : decode cb_O_interrupted 28 = .ok (.iload_n 1, 1) := by decide +kernel
theorem dc_O_interrupted_29 : decode cb_O_interrupted 29 = .ok (.invokevirtual 154, 3) := by decide +kernel
theorem dc_O_interrupted_32 : decode cb_O_interrupted 32 = .ok (.goto 35, 3) := by decide +kernel
theorem dc_O_interrupted_35 : decode cb_O_interrupted 35 = .ok (.aload_n 0, 1) := by decide +kernel
theorem dc_O_interrupted_36 : decode cb_O_interrupted 36 = .ok (.getfield 43, 3) := by decide +kernel
theorem dc_O_interrupted_39 : decode cb_O_interrupted 39 = .ok (.iload_n 1, 1) := by decide +kernel
theorem dc_O_interrupted_40 : decode cb_O_interrupted 40 = .ok (.iaload, 1) := by decide +kernel
theorem dc_O_interrupted_41 : decode cb_O_interrupted 41 = .ok (.iconst 4, 1) := by decide +kernel
theorem dc_O_interrupted_42 : decode cb_O_interrupted 42 = .ok (.if_icmp .ne 18, 3) := by decide +kernel
theorem dc_O_interrupted_45 : decode cb_O_interrupted 45 = .ok (.aload_n 0, 1) := by decide +kernel
theorem dc_O_interrupted_46 : decode cb_O_interrupted 46 = .ok (.getfield 77, 3) := by decide +kernel
theorem dc_O_interrupted_49 : decode cb_O_interrupted 49 = .ok (.iload_n 1, 1) := by decide +kernel
theorem dc_O_interrupted_50 : decode cb_O_interrupted 50 = .ok (.iconst 1, 1) := by decide +kernel
theorem dc_O_interrupted_51 : decode cb_O_interrupted 51 = .ok (.bastore, 1) := by decide +kernel
theorem dc_O_interrupted_52 : decode cb_O_interrupted 52 = .ok (.aload_n 0, 1) := by decide +kernel
theorem dc_O_interrupted_53 : decode cb_O_interrupted 53 = .ok (.iload_n 1, 1) := by decide +kernel
theorem dc_O_interrupted_54 : decode cb_O_interrupted 54 = .ok (.invokevirtual 157, 3) := by decide +kernel
theorem dc_O_interrupted_57 : decode cb_O_interrupted 57 = .ok (.goto 10, 3) := by decide +kernel
theorem dc_O_interrupted_60 : decode cb_O_interrupted 60 = .ok (.aload_n 0, 1) := by decide +kernel
theorem dc_O_interrupted_61 : decode cb_O_interrupted 61 = .ok (.getfield 73, 3) := by decide +kernel
theorem dc_O_interrupted_64 : decode cb_O_interrupted 64 = .ok (.iload_n 1, 1) := by decide +kernel
theorem dc_O_interrupted_65 : decode cb_O_interrupted 65 = .ok (.iconst 1, 1) := by decide +kernel
theorem dc_O_interrupted_66 : decode cb_O_interrupted 66 = .ok (.bastore, 1) := by decide +kernel
theorem dc_O_interrupted_67 : decode cb_O_interrupted 67 = .ok (.iconst 1, 1) := by decide +kernel
theorem dc_O_interrupted_68 : decode cb_O_interrupted 68 = .ok (.ireturn, 1) := by decide +kernel
theorem dc_O_ready_0 : decode cb_O_ready 0 = .ok (.iconst 1, 1) := by decide +kernel
theorem dc_O_ready_1 : decode cb_O_ready 1 = .ok (.istore_n 1, 1) := by decide +kernel
theorem dc_O_ready_2 : decode cb_O_ready 2 = .ok (.iload_n 1, 1) := by decide +kernel
theorem dc_O_ready_3 : decode cb_O_ready 3 = .ok (.bipush 6, 2) := by decide +kernel
theorem dc_O_ready_5 : decode cb_O_ready 5 = .ok (.if_icmp .ge 45, 3) := by decide +kernel
theorem dc_O_ready_8 : decode cb_O_ready 8 = .ok (.aload_n 0, 1) := by decide +kernel
theorem dc_O_ready_9 : decode cb_O_ready 9 = .ok (.getfield 43, 3) := by decide +kernel
theorem dc_O_ready_12 : decode cb_O_ready 12 = .ok (.aload_n 0, 1) := by decide +kernel
theorem dc_O_ready_13 : decode cb_O_ready 13 = .ok (.getfield 107, 3) := by decide +kernel
theorem dc_O_ready_16 : decode cb_O_ready 16 = .ok (.bipush 6, 2) := by decide +kernel
theorem dc_O_ready_18 : decode cb_O_ready 18 = .ok (.iaload, 1) := by decide +kernel
theorem dc_O_ready_19 : decode cb_O_ready 19 = .ok (.iload_n 1, 1) := by decide +kernel
theorem dc_O_ready_20 : decode cb_O_ready 20 = .ok (.iadd, 1) := by decide +kernel
theorem dc_O_ready_21 : decode cb_O_ready 21 = .ok (.iconst 5, 1) := by decide +kernel
theorem dc_O_ready_22 : decode cb_O_ready 22 = .ok (.iadd, 1) := by decide +kernel
theorem dc_O_ready_23 : decode cb_O_ready 23 = .ok (.iconst 5, 1) := by decide +kernel
theorem dc_O_ready_24 : decode cb_O_ready 24 = .ok (.irem, 1) := by decide +kernel
theorem dc_O_ready_25 : decode cb_O_ready 25 = .ok (.iaload, 1) := by decide +kernel
theorem dc_O_ready_26 : decode cb_O_ready 26 = .ok (.iconst 1, 1) := by decide +kernel
theorem dc_O_ready_27 : decode cb_O_ready 27 = .ok (.if_icmp .ne 17, 3) := by decide +kernel
theorem dc_O_ready_30 : decode cb_O_ready 30 = .ok (.aload_n 0, 1) := by decide +kernel
theorem dc_O_ready_31 : decode cb_O_ready 31 = .ok (.getfield 107, 3) := by decide +kernel
theorem dc_O_ready_34 : decode cb_O_ready 34 = .ok (.bipush 6, 2) := by decide +kernel
theorem dc_O_ready_36 : decode cb_O_ready 36 = .ok (.iaload, 1) := by decide +kernel
theorem dc_O_ready_37 : decode cb_O_ready 37 = .ok (.iload_n 1, 1) := by decide +kernel
theorem dc_O_ready_38 : decode cb_O_ready 38 = .ok (.iadd, 1) := by decide +kernel
theorem dc_O_ready_39 : decode cb_O_ready 39 = .ok (.iconst 5, 1) := by decide +kernel
theorem dc_O_ready_40 : decode cb_O_ready 40 = .ok (.iadd, 1) := by decide +kernel
theorem dc_O_ready_41 : decode cb_O_ready 41 = .ok (.iconst 5, 1) := by decide +kernel
theorem dc_O_ready_42 : decode cb_O_ready 42 = .ok (.irem, 1) := by decide +kernel
theorem dc_O_ready_43 : decode cb_O_ready 43 = .ok (.ireturn, 1) := by decide +kernel
theorem dc_O_ready_44 : decode cb_O_ready 44 = .ok (.iinc 1 1, 3) := by decide +kernel
theorem dc_O_ready_47 : decode cb_O_ready 47 = .ok (.goto (-45), 3) := by decide +kernel
theorem dc_O_ready_50 : decode cb_O_ready 50 = .ok (.iconst (-1), 1) := by decide +kernel
theorem dc_O_ready_51 : decode cb_O_ready 51 = .ok (.ireturn, 1) := by decide +kernel
theorem dc_O_add_0 : decode cb_O_add 0 = .ok (.aload_n 0, 1) := by decide +kernel
theorem dc_O_add_1 : decode cb_O_add 1 = .ok (.iconst 0, 1) := by decide +kernel
theorem dc_O_add_2 : decode cb_O_add 2 = .ok (.putfield 114, 3) := by decide +kernel
theorem dc_O_add_5 : decode cb_O_add 5 = .ok (.iload_n 1, 1) := by decide +kernel
theorem dc_O_add_6 : decode cb_O_add 6 = .ok (.iconst 0, 1) := by decide +kernel
theorem dc_O_add_7 : decode cb_O_add 7 = .ok (.iconst 4, 1) := by decide +kernel
theorem dc_O_add_8 : decode cb_O_add 8 = .ok (.invokestatic 117, 3) := by decide +kernel
theorem dc_O_add_11 : decode cb_O_add 11 = .ok (.ifCond .eq 13, 3) := by decide +kernel
theorem dc_O_add_14 : decode cb_O_add 14 = .ok (.iload_n 2, 1) := by decide +kernel
theorem dc_O_add_15 : decode cb_O_add 15 = .ok (.iload_n 3, 1) := by decide +kernel
theorem dc_O_add_16 : decode cb_O_add 16 = .ok (.iload 4, 2) := by decide +kernel
theorem dc_O_add_18 : decode cb_O_add 18 = .ok (.invokestatic 121, 3) := by decide +kernel
theorem dc_O_add_21 : decode cb_O_add 21 = .ok (.ifCond .ne 9, 3) := by decide +kernel
theorem dc_O_add_24 : decode cb_O_add 24 = .ok (.aload_n 0, 1) := by decide +kernel
theorem dc_O_add_25 : decode cb_O_add 25 = .ok (.iconst 1, 1) := by decide +kernel
theorem dc_O_add_26 : decode cb_O_add 26 = .ok (.invokevirtual 124, 3) := by decide +kernel
theorem dc_O_add_29 : decode cb_O_add 29 = .ok (.ireturn, 1) := by decide +kernel
theorem dc_O_add_30 : decode cb_O_add 30 = .ok (.aload_n 0, 1) := by decide +kernel
theorem dc_O_add_31 : decode cb_O_add 31 = .ok (.iload_n 1, 1) := by decide +kernel
theorem dc_O_add_32 : decode cb_O_add 32 = .ok (.invokevirtual 128, 3) := by decide +kernel
theorem dc_O_add_35 : decode cb_O_add 35 = .ok (.ifCond .eq 9, 3) := by decide +kernel
theorem dc_O_add_38 : decode cb_O_add 38 = .ok (.aload_n 0, 1) := by decide +kernel
theorem dc_O_add_39 : decode cb_O_add 39 = .ok (.iconst 2, 1) := by decide +kernel
theorem dc_O_add_40 : decode cb_O_add 40 = .ok (.invokevirtual 124, 3) := by decide +kernel
theorem dc_O_add_43 : decode cb_O_add 43 = .ok (.ireturn, 1) := by decide +kernel
theorem dc_O_add_44 : decode cb_O_add 44 = .ok (.aload_n 0, 1) := by decide +kernel
theorem dc_O_add_45 : decode cb_O_add 45 = .ok (.getfield 19, 3) := by decide +kernel
theorem dc_O_add_48 : decode cb_O_add 48 = .ok (.iload_n 1, 1) := by decide +kernel
theorem dc_O_add_49 : decode cb_O_add 49 = .ok (.iaload, 1) := by decide +kernel
theorem dc_O_add_50 : decode cb_O_add 50 = .ok (.bipush 24, 2) := by decide +kernel
theorem dc_O_add_52 : decode cb_O_add 52 = .ok (.if_icmp .ne 9, 3) := by decide +kernel
theorem dc_O_add_55 : decode cb_O_add 55 = .ok (.aload_n 0, 1) := by decide +kernel
theorem dc_O_add_56 : decode cb_O_add 56 = .ok (.iconst 3, 1) := by decide +kernel
theorem dc_O_add_57 : decode cb_O_add 57 = .ok (.invokevirtual 124, 3) := by decide +kernel
theorem dc_O_add_60 : decode cb_O_add 60 = .ok (.ireturn, 1) := by decide +kernel
theorem dc_O_add_61 : decode cb_O_add 61 = .ok (.bipush 24, 2) := by decide +kernel
theorem dc_O_add_63 : decode cb_O_add 63 = .ok (.iload_n 1, 1) := by decide +kernel
theorem dc_O_add_64 : decode cb_O_add 64 = .ok (.imul, 1) := by decide +kernel
theorem dc_O_add_65 : decode cb_O_add 65 = .ok (.aload_n 0, 1) := by decide +kernel
theorem dc_O_add_66 : decode cb_O_add 66 = .ok (.getfield 19, 3) := by decide +kernel
theorem dc_O_add_69 : decode cb_O_add 69 = .ok (.iload_n 1, 1) := by decide +kernel
theorem dc_O_add_70 : decode cb_O_add 70 = .ok (.iaload, 1) := by decide +kernel
theorem dc_O_add_71 : decode cb_O_add 71 = .ok (.iadd, 1) := by decide +kernel
theorem dc_O_add_72 : decode cb_O_add 72 = .ok (.istore 5, 2) := by decide +kernel
theorem dc_O_add_74 : decode cb_O_add 74 = .ok (.aload_n 0, 1) := by decide +kernel
theorem dc_O_add_75 : decode cb_O_add 75 = .ok (.getfield 7, 3) := by decide +kernel
theorem dc_O_add_78 : decode cb_O_add 78 = .ok (.iload 5, 2) := by decide +kernel
theorem dc_O_add_80 : decode cb_O_add 80 = .ok (.iload_n 2, 1) := by decide +kernel
theorem dc_O_add_81 : decode cb_O_add 81 = .ok (.iastore, 1) := by decide +kernel
theorem dc_O_add_82 : decode cb_O_add 82 = .ok (.aload_n 0, 1) := by decide +kernel
theorem dc_O_add_83 : decode cb_O_add 83 = .ok (.getfield 13, 3) := by decide +kernel
theorem dc_O_add_86 : decode cb_O_add 86 = .ok (.iload 5, 2) := by decide +kernel
theorem dc_O_add_88 : decode cb_O_add 88 = .ok (.iload_n 3, 1) := by decide +kernel
theorem dc_O_add_89 : decode cb_O_add 89 = .ok (.iastore, 1) := by decide +kernel
theorem dc_O_add_90 : decode cb_O_add 90 = .ok (.aload_n 0, 1) := by decide +kernel
theorem dc_O_add_91 : decode cb_O_add 91 = .ok (.getfield 16, 3) := by decide +kernel
theorem dc_O_add_94 : decode cb_O_add 94 = .ok (.iload 5, 2) := by decide +kernel
theorem dc_O_add_96 : decode cb_O_add 96 = .ok (.iload 4, 2) := by decide +kernel
theorem dc_O_add_98 : decode cb_O_add 98 = .ok (.iastore, 1) := by decide +kernel
theorem dc_O_add_99 : decode cb_O_add 99 = .ok (.aload_n 0, 1) := by decide +kernel
theorem dc_O_add_100 : decode cb_O_add 100 = .ok (.getfield 19, 3) := by decide +kernel
theorem dc_O_add_103 : decode cb_O_add 103 = .ok (.iload_n 1, 1) := by decide +kernel
theorem dc_O_add_104 : decode cb_O_add 104 = .ok (.dup2, 1) := by decide +kernel
theorem dc_O_add_105 : decode cb_O_add 105 = .ok (.iaload, 1) := by decide +kernel
theorem dc_O_add_106 : decode cb_O_add 106 = .ok (.iconst 1, 1) := by decide +kernel
theorem dc_O_add_107 : decode cb_O_add 107 = .ok (.iadd, 1) := by decide +kernel
theorem dc_O_add_108 : decode cb_O_add 108 = .ok (.dup_x2, 1) := by decide +kernel
theorem dc_O_add_109 : decode cb_O_add 109 = .ok (.iastore, 1) := by decide +kernel
theorem dc_O_add_110 : decode cb_O_add 110 = .ok (.ireturn, 1) := by decide +kernel
theorem dc_O_clear_0 : decode cb_O_clear 0 = .ok (.aload_n 0, 1) := by decide +kernel
theorem dc_O_clear_1 : decode cb_O_clear 1 = .ok (.iconst 0, 1) := by decide +kernel
theorem dc_O_clear_2 : decode cb_O_clear 2 = .ok (.putfield 114, 3) := by decide +kernel
theorem dc_O_clear_5 : decode cb_O_clear 5 = .ok (.iload_n 1, 1) := by decide +kernel
theorem dc_O_clear_6 : decode cb_O_clear 6 = .ok (.iconst 0, 1) := by decide +kernel
theorem dc_O_clear_7 : decode cb_O_clear 7 = .ok (.iconst 4, 1) := by decide +kernel
theorem dc_O_clear_8 : decode cb_O_clear 8 = .ok (.invokestatic 117, 3) := by decide +kernel
theorem dc_O_clear_11 : decode cb_O_clear 11 = .ok (.ifCond .ne 9, 3) := by decide +kernel
theorem dc_O_clear_14 : decode cb_O_clear 14 = .ok (.aload_n 0, 1) := by decide +kernel
theorem dc_O_clear_15 : decode cb_O_clear 15 = .ok (.iconst 1, 1) := by decide +kernel
theorem dc_O_clear_16 : decode cb_O_clear 16 = .ok (.invokevirtual 124, 3) := by decide +kernel
theorem dc_O_clear_19 : decode cb_O_clear 19 = .ok (.ireturn, 1) := by decide +kernel
theorem dc_O_clear_20 : decode cb_O_clear 20 = .ok (.aload_n 0, 1) := by decide +kernel
theorem dc_O_clear_21 : decode cb_O_clear 21 = .ok (.iload_n 1, 1) := by decide +kernel
theorem dc_O_clear_22 : decode cb_O_clear 22 = .ok (.invokevirtual 128, 3) := by decide +kernel
theorem dc_O_clear_25 : decode cb_O_clear 25 = .ok (.ifCond .eq 9, 3) := by decide +kernel
theorem dc_O_clear_28 : decode cb_O_clear 28 = .ok (.aload_n 0, 1) := by decide +kernel
theorem dc_O_clear_29 : decode cb_O_clear 29 = .ok (.iconst 2, 1) := by decide +kernel
theorem dc_O_clear_30 : decode cb_O_clear 30 = .ok (.invokevirtual 124, 3) := by decide +kernel
theorem dc_O_clear_33 : decode cb_O_clear 33 = .ok (.ireturn, 1) := by decide +kernel
theorem dc_O_clear_34 : decode cb_O_clear 34 = .ok (.aload_n 0, 1) := by decide +kernel
theorem dc_O_clear_35 : decode cb_O_clear 35 = .ok (.getfield 19, 3) := by decide +kernel
theorem dc_O_clear_38 : decode cb_O_clear 38 = .ok (.iload_n 1, 1) := by decide +kernel
theorem dc_O_clear_39 : decode cb_O_clear 39 = .ok (.iaload, 1) := by decide +kernel
theorem dc_O_clear_40 : decode cb_O_clear 40 = .ok (.istore_n 2, 1) := by decide +kernel
theorem dc_O_clear_41 : decode cb_O_clear 41 = .ok (.aload_n 0, 1) := by decide +kernel
theorem dc_O_clear_42 : decode cb_O_clear 42 = .ok (.getfield 19, 3) := by decide +kernel
theorem dc_O_clear_45 : decode cb_O_clear 45 = .ok (.iload_n 1, 1) := by decide +kernel
theorem dc_O_clear_46 : decode cb_O_clear 46 = .ok (.iconst 0, 1) := by decide +kernel
theorem dc_O_clear_47 : decode cb_O_clear 47 = .ok (.iastore, 1) := by decide +kernel
theorem dc_O_clear_48 : decode cb_O_clear 48 = .ok (.iload_n 2, 1) := by decide +kernel
theorem dc_O_clear_49 : decode cb_O_clear 49 = .ok (.ireturn, 1) := by decide +kernel
theorem dc_O_start_0 : decode cb_O_start 0 = .ok (.aload_n 0, 1) := by decide +kernel
theorem dc_O_start_1 : decode cb_O_start 1 = .ok (.iconst 0, 1) := by decide +kernel
theorem dc_O_start_2 : decode cb_O_start 2 = .ok (.putfield 114, 3) := by decide +kernel
theorem dc_O_start_5 : decode cb_O_start 5 = .ok (.iload_n 1, 1) := by decide +kernel
theorem dc_O_start_6 : decode cb_O_start 6 = .ok (.iconst 0, 1) := by decide +kernel
theorem dc_O_start_7 : decode cb_O_start 7 = .ok (.iconst 4, 1) := by decide +kernel
theorem dc_O_start_8 : decode cb_O_start 8 = .ok (.invokestatic 117, 3) := by decide +kernel
theorem dc_O_start_11 : decode cb_O_start 11 = .ok (.ifCond .ne 9, 3) := by decide +kernel
theorem dc_O_start_14 : decode cb_O_start 14 = .ok (.aload_n 0, 1) := by decide +kernel
theorem dc_O_start_15 : decode cb_O_start 15 = .ok (.iconst 1, 1) := by decide +kernel
theorem dc_O_start_16 : decode cb_O_start 16 = .ok (.invokevirtual 124, 3) := by decide +kernel
theorem dc_O_start_19 : decode cb_O_start 19 = .ok (.ireturn, 1) := by decide +kernel
theorem dc_O_start_20 : decode cb_O_start 20 = .ok (.aload_n 0, 1) := by decide +kernel
theorem dc_O_start_21 : decode cb_O_start 21 = .ok (.iload_n 1, 1) := by decide +kernel
theorem dc_O_start_22 : decode cb_O_start 22 = .ok (.invokevirtual 179, 3) := by decide +kernel
theorem dc_O_start_25 : decode cb_O_start 25 = .ok (.ifCond .eq 7, 3) := by decide +kernel
theorem dc_O_start_28 : decode cb_O_start 28 = .ok (.iconst 1, 1) := by decide +kernel
theorem dc_O_start_29 : decode cb_O_start 29 = .ok (.goto 4, 3) := by decide +kernel
theorem dc_O_start_32 : decode cb_O_start 32 = .ok (.iconst 0, 1) := by decide +kernel
theorem dc_O_start_33 : decode cb_O_start 33 = .ok (.ireturn, 1) := by decide +kernel
theorem dc_O_run_0 : decode cb_O_run 0 = .ok (.aload_n 0, 1) := by decide +kernel
theorem dc_O_run_1 : decode cb_O_run 1 = .ok (.iconst 0, 1) := by decide +kernel
theorem dc_O_run_2 : decode cb_O_run 2 = .ok (.putfield 114, 3) := by decide +kernel
theorem dc_O_run_5 : decode cb_O_run 5 = .ok (.iload_n 1, 1) := by decide +kernel
theorem dc_O_run_6 : decode cb_O_run 6 = .ok (.iconst 1, 1) := by decide +kernel
theorem dc_O_run_7 : decode cb_O_run 7 = .ok (.bipush 40, 2) := by decide +kernel
theorem dc_O_run_9 : decode cb_O_run 9 = .ok (.invokestatic 117, 3) := by decide +kernel
theorem dc_O_run_12 : decode cb_O_run 12 = .ok (.ifCond .ne 9, 3) := by decide +kernel
theorem dc_O_run_15 : decode cb_O_run 15 = .ok (.aload_n 0, 1) := by decide +kernel
theorem dc_O_run_16 : decode cb_O_run 16 = .ok (.iconst 1, 1) := by decide +kernel
theorem dc_O_run_17 : decode cb_O_run 17 = .ok (.invokevirtual 124, 3) := by decide +kernel
theorem dc_O_run_20 : decode cb_O_run 20 = .ok (.ireturn, 1) := by decide +kernel
theorem dc_O_run_21 : decode cb_O_run 21 = .ok (.aload_n 0, 1) := by decide +kernel
theorem dc_O_run_22 : decode cb_O_run 22 = .ok (.getfield 107, 3) := by decide +kernel
theorem dc_O_run_25 : decode cb_O_run 25 = .ok (.iconst 1, 1) := by decide +kernel
theorem dc_O_run_26 : decode cb_O_run 26 = .ok (.iaload, 1) := by decide +kernel
theorem dc_O_run_27 : decode cb_O_run 27 = .ok (.istore_n 2, 1) := by decide +kernel
theorem dc_O_run_28 : decode cb_O_run 28 = .ok (.iconst 0, 1) := by decide +kernel
theorem dc_O_run_29 : decode cb_O_run 29 = .ok (.istore_n 3, 1) := by decide +kernel
theorem dc_O_run_30 : decode cb_O_run 30 = .ok (.iload_n 3, 1) := by decide +kernel
theorem dc_O_run_31 : decode cb_O_run 31 = .ok (.iload_n 1, 1) := by decide +kernel
theorem dc_O_run_32 : decode cb_O_run 32 = .ok (.if_icmp .ge 24, 3) := by decide +kernel
theorem dc_O_run_35 : decode cb_O_run 35 = .ok (.aload_n 0, 1) := by decide +kernel
theorem dc_O_run_36 : decode cb_O_run 36 = .ok (.invokevirtual 192, 3) := by decide +kernel
theorem dc_O_run_39 : decode cb_O_run 39 = .ok (.ifCond .lt 17, 3) := by decide +kernel
theorem dc_O_run_42 : decode cb_O_run 42 = .ok (.aload_n 0, 1) := by decide +kernel
theorem dc_O_run_43 : decode cb_O_run 43 = .ok (.aload_n 0, 1) := by decide +kernel
theorem dc_O_run_44 : decode cb_O_run 44 = .ok (.invokevirtual 192, 3) := by decide +kernel
theorem dc_O_run_47 : decode cb_O_run 47 = .ok (.invokevirtual 196, 3) := by decide +kernel
theorem dc_O_run_50 : decode cb_O_run 50 = .ok (.iinc 3 1, 3) := by decide +kernel
theorem dc_O_run_53 : decode cb_O_run 53 = .ok (.goto (-23), 3) := by decide +kernel
theorem dc_O_run_56 : decode cb_O_run 56 = .ok (.aload_n 0, 1) := by decide +kernel
theorem dc_O_run_57 : decode cb_O_run 57 = .ok (.getfield 107, 3) := by decide +kernel
theorem dc_O_run_60 : decode cb_O_run 60 = .ok (.iconst 1, 1) := by decide +kernel
theorem dc_O_run_61 : decode cb_O_run 61 = .ok (.iaload, 1) := by decide +kernel
theorem dc_O_run_62 : decode cb_O_run 62 = .ok (.iload_n 2, 1) := by decide +kernel
theorem dc_O_run_63 : decode cb_O_run 63 = .ok (.isub, 1) := by decide +kernel
theorem dc_O_run_64 : decode cb_O_run 64 = .ok (.ireturn, 1) := by decide +kernel
theorem dc_O_interrupt_0 : decode cb_O_interrupt 0 = .ok (.aload_n 0, 1) := by decide +kernel
theorem dc_O_interrupt_1 : decode cb_O_interrupt 1 = .ok (.iconst 0, 1) := by decide +kernel
theorem dc_O_interrupt_2 : decode cb_O_interrupt 2 = .ok (.putfield 114, 3) := by decide +kernel
theorem dc_O_interrupt_5 : decode cb_O_interrupt 5 = .ok (.iload_n 1, 1) := by decide +kernel
theorem dc_O_interrupt_6 : decode cb_O_interrupt 6 = .ok (.iconst 0, 1) := by decide +kernel
theorem dc_O_interrupt_7 : decode cb_O_interrupt 7 = .ok (.iconst 4, 1) := by decide +kernel
theorem dc_O_interrupt_8 : decode cb_O_interrupt 8 = .ok (.invokestatic 117, 3) := by decide +kernel
theorem dc_O_interrupt_11 : decode cb_O_interrupt 11 = .ok (.ifCond .ne 9, 3) := by decide +kernel
theorem dc_O_interrupt_14 : decode cb_O_interrupt 14 = .ok (.aload_n 0, 1) := by decide +kernel
theorem dc_O_interrupt_15 : decode cb_O_interrupt 15 = .ok (.iconst 1, 1) := by decide +kernel
theorem dc_O_interrupt_16 : decode cb_O_interrupt 16 = .ok (.invokevirtual 124, 3) := by decide +kernel
theorem dc_O_interrupt_19 : decode cb_O_interrupt 19 = .ok (.ireturn, 1) := by decide +kernel
theorem dc_O_interrupt_20 : decode cb_O_interrupt 20 = .ok (.aload_n 0, 1) := by decide +kernel
theorem dc_O_interrupt_21 : decode cb_O_interrupt 21 = .ok (.iload_n 1, 1) := by decide +kernel
theorem dc_O_interrupt_22 : decode cb_O_interrupt 22 = .ok (.invokevirtual 185, 3) := by decide +kernel
theorem dc_O_interrupt_25 : decode cb_O_interrupt 25 = .ok (.ifCond .eq 7, 3) := by decide +kernel
theorem dc_O_interrupt_28 : decode cb_O_interrupt 28 = .ok (.iconst 1, 1) := by decide +kernel
theorem dc_O_interrupt_29 : decode cb_O_interrupt 29 = .ok (.goto 4, 3) := by decide +kernel
theorem dc_O_interrupt_32 : decode cb_O_interrupt 32 = .ok (.iconst 0, 1) := by decide +kernel
theorem dc_O_interrupt_33 : decode cb_O_interrupt 33 = .ok (.ireturn, 1) := by decide +kernel
theorem dc_O_slice_0 : decode cb_O_slice 0 = .ok (.aload_n 0, 1) := by decide +kernel
theorem dc_O_slice_1 : decode cb_O_slice 1 = .ok (.iconst 0, 1) := by decide +kernel
theorem dc_O_slice_2 : decode cb_O_slice 2 = .ok (.putfield 114, 3) := by decide +kernel
theorem dc_O_slice_5 : decode cb_O_slice 5 = .ok (.iload_n 1, 1) := by decide +kernel
theorem dc_O_slice_6 : decode cb_O_slice 6 = .ok (.iconst 1, 1) := by decide +kernel
theorem dc_O_slice_7 : decode cb_O_slice 7 = .ok (.bipush 20, 2) := by decide +kernel
theorem dc_O_slice_9 : decode cb_O_slice 9 = .ok (.invokestatic 117, 3) := by decide +kernel
theorem dc_O_slice_12 : decode cb_O_slice 12 = .ok (.ifCond .ne 9, 3) := by decide +kernel
theorem dc_O_slice_15 : decode cb_O_slice 15 = .ok (.aload_n 0, 1) := by decide +kernel
theorem dc_O_slice_16 : decode cb_O_slice 16 = .ok (.iconst 1, 1) := by decide +kernel
theorem dc_O_slice_17 : decode cb_O_slice 17 = .ok (.invokevirtual 124, 3) := by decide +kernel
theorem dc_O_slice_20 : decode cb_O_slice 20 = .ok (.ireturn, 1) := by decide +kernel
theorem dc_O_slice_21 : decode cb_O_slice 21 = .ok (.aload_n 0, 1) := by decide +kernel
theorem dc_O_slice_22 : decode cb_O_slice 22 = .ok (.getfield 110, 3) := by decide +kernel
theorem dc_O_slice_25 : decode cb_O_slice 25 = .ok (.istore_n 2, 1) := by decide +kernel
theorem dc_O_slice_26 : decode cb_O_slice 26 = .ok (.aload_n 0, 1) := by decide +kernel
theorem dc_O_slice_27 : decode cb_O_slice 27 = .ok (.iload_n 1, 1) := by decide +kernel
theorem dc_O_slice_28 : decode cb_O_slice 28 = .ok (.putfield 110, 3) := by decide +kernel
theorem dc_O_slice_31 : decode cb_O_slice 31 = .ok (.iload_n 2, 1) := by decide +kernel
theorem dc_O_slice_32 : decode cb_O_slice 32 = .ok (.ireturn, 1) := by decide +kernel
theorem dc_O_global_0 : decode cb_O_global 0 = .ok (.aload_n 0, 1) := by decide +kernel
theorem dc_O_global_1 : decode cb_O_global 1 = .ok (.iconst 0, 1) := by decide +kernel
theorem dc_O_global_2 : decode cb_O_global 2 = .ok (.putfield 114, 3) := by decide +kernel
theorem dc_O_global_5 : decode cb_O_global 5 = .ok (.iload_n 1, 1) := by decide +kernel
theorem dc_O_global_6 : decode cb_O_global 6 = .ok (.iconst 0, 1) := by decide +kernel
theorem dc_O_global_7 : decode cb_O_global 7 = .ok (.iconst 3, 1) := by decide +kernel
theorem dc_O_global_8 : decode cb_O_global 8 = .ok (.invokestatic 117, 3) := by decide +kernel
theorem dc_O_global_11 : decode cb_O_global 11 = .ok (.ifCond .ne 9, 3) := by decide +kernel
theorem dc_O_global_14 : decode cb_O_global 14 = .ok (.aload_n 0, 1) := by decide +kernel
theorem dc_O_global_15 : decode cb_O_global 15 = .ok (.iconst 1, 1) := by decide +kernel
theorem dc_O_global_16 : decode cb_O_global 16 = .ok (.invokevirtual 124, 3) := by decide +kernel
theorem dc_O_global_19 : decode cb_O_global 19 = .ok (.ireturn, 1) := by decide +kernel
theorem dc_O_global_20 : decode cb_O_global 20 = .ok (.aload_n 0, 1) := by decide +kernel
theorem dc_O_global_21 : decode cb_O_global 21 = .ok (.getfield 22, 3) := by decide +kernel
theorem dc_O_global_24 : decode cb_O_global 24 = .ok (.iload_n 1, 1) := by decide +kernel
theorem dc_O_global_25 : decode cb_O_global 25 = .ok (.iaload, 1) := by decide +kernel
theorem dc_O_global_26 : decode cb_O_global 26 = .ok (.istore_n 3, 1) := by decide +kernel
theorem dc_O_global_27 : decode cb_O_global 27 = .ok (.aload_n 0, 1) := by decide +kernel
theorem dc_O_global_28 : decode cb_O_global 28 = .ok (.getfield 22, 3) := by decide +kernel
theorem dc_O_global_31 : decode cb_O_global 31 = .ok (.iload_n 1, 1) := by decide +kernel
theorem dc_O_global_32 : decode cb_O_global 32 = .ok (.iload_n 2, 1) := by decide +kernel
theorem dc_O_global_33 : decode cb_O_global 33 = .ok (.iastore, 1) := by decide +kernel
theorem dc_O_global_34 : decode cb_O_global 34 = .ok (.iload_n 3, 1) := by decide +kernel
theorem dc_O_global_35 : decode cb_O_global 35 = .ok (.ireturn, 1) := by decide +kernel
theorem dc_O_special_0 : decode cb_O_special 0 = .ok (.aload_n 0, 1) := by decide +kernel
theorem dc_O_special_1 : decode cb_O_special 1 = .ok (.iconst 0, 1) := by decide +kernel
theorem dc_O_special_2 : decode cb_O_special 2 = .ok (.putfield 114, 3) := by decide +kernel
theorem dc_O_special_5 : decode cb_O_special 5 = .ok (.iload_n 1, 1) := by decide +kernel
theorem dc_O_special_6 : decode cb_O_special 6 = .ok (.iconst 0, 1) := by decide +kernel
theorem dc_O_special_7 : decode cb_O_special 7 = .ok (.iconst 4, 1) := by decide +kernel
theorem dc_O_special_8 : decode cb_O_special 8 = .ok (.invokestatic 117, 3) := by decide +kernel
theorem dc_O_special_11 : decode cb_O_special 11 = .ok (.ifCond .eq 21, 3) := by decide +kernel
theorem dc_O_special_14 : decode cb_O_special 14 = .ok (.iload_n 2, 1) := by decide +kernel
theorem dc_O_special_15 : decode cb_O_special 15 = .ok (.iconst 0, 1) := by decide +kernel
theorem dc_O_special_16 : decode cb_O_special 16 = .ok (.iconst 3, 1) := by decide +kernel
theorem dc_O_special_17 : decode cb_O_special 17 = .ok (.invokestatic 117, 3) := by decide +kernel
theorem dc_O_special_20 : decode cb_O_special 20 = .ok (.ifCond .eq 12, 3) := by decide +kernel
theorem dc_O_special_23 : decode cb_O_special 23 = .ok (.aload_n 0, 1) := by decide +kernel
theorem dc_O_special_24 : decode cb_O_special 24 = .ok (.iload_n 1, 1) := by decide +kernel
theorem dc_O_special_25 : decode cb_O_special 25 = .ok (.iload_n 2, 1) := by decide +kernel
theorem dc_O_special_26 : decode cb_O_special 26 = .ok (.invokevirtual 136, 3) := by decide +kernel
theorem dc_O_special_29 : decode cb_O_special 29 = .ok (.goto 8, 3) := by decide +kernel
theorem dc_O_special_32 : decode cb_O_special 32 = .ok (.aload_n 0, 1) := by decide +kernel
theorem dc_O_special_33 : decode cb_O_special 33 = .ok (.iconst 1, 1) := by decide +kernel
theorem dc_O_special_34 : decode cb_O_special 34 = .ok (.invokevirtual 124, 3) := by decide +kernel
theorem dc_O_special_37 : decode cb_O_special 37 = .ok (.ireturn, 1) := by decide +kernel
theorem dc_O_look_0 : decode cb_O_look 0 = .ok (.aload_n 0, 1) := by decide +kernel
theorem dc_O_look_1 : decode cb_O_look 1 = .ok (.iconst 0, 1) := by decide +kernel
theorem dc_O_look_2 : decode cb_O_look 2 = .ok (.putfield 114, 3) := by decide +kernel
theorem dc_O_look_5 : decode cb_O_look 5 = .ok (.iload_n 1, 1) := by decide +kernel
theorem dc_O_look_6 : decode cb_O_look 6 = .ok (.iconst 0, 1) := by decide +kernel
theorem dc_O_look_7 : decode cb_O_look 7 = .ok (.iconst 4, 1) := by decide +kernel
theorem dc_O_look_8 : decode cb_O_look 8 = .ok (.invokestatic 117, 3) := by decide +kernel
theorem dc_O_look_11 : decode cb_O_look 11 = .ok (.ifCond .ne 9, 3) := by decide +kernel
theorem dc_O_look_14 : decode cb_O_look 14 = .ok (.aload_n 0, 1) := by decide +kernel
theorem dc_O_look_15 : decode cb_O_look 15 = .ok (.iconst 1, 1) := by decide +kernel
theorem dc_O_look_16 : decode cb_O_look 16 = .ok (.invokevirtual 124, 3) := by decide +kernel
theorem dc_O_look_19 : decode cb_O_look 19 = .ok (.ireturn, 1) := by decide +kernel
theorem dc_O_look_20 : decode cb_O_look 20 = .ok (.iload_n 2, 1) := by decide +kernel
theorem dc_O_look_21 : decode cb_O_look 21 = .ok (.tableswitch 133 0 9 #[55, 62, 69, 76, 83, 90, 105, 112, 119, 126], 55) := by decide +kernel
theorem dc_O_look_76 : decode cb_O_look 76 = .ok (.aload_n 0, 1) := by decide +kernel
theorem dc_O_look_77 : decode cb_O_look 77 = .ok (.getfield 43, 3) := by decide +kernel
theorem dc_O_look_80 : decode cb_O_look 80 = .ok (.iload_n 1, 1) := by decide +kernel
theorem dc_O_look_81 : decode cb_O_look 81 = .ok (.iaload, 1) := by decide +kernel
theorem dc_O_look_82 : decode cb_O_look 82 = .ok (.ireturn, 1) := by decide +kernel
theorem dc_O_look_83 : decode cb_O_look 83 = .ok (.aload_n 0, 1) := by decide +kernel
theorem dc_O_look_84 : decode cb_O_look 84 = .ok (.getfield 46, 3) := by decide +kernel
theorem dc_O_look_87 : decode cb_O_look 87 = .ok (.iload_n 1, 1) := by decide +kernel
theorem dc_O_look_88 : decode cb_O_look 88 = .ok (.iaload, 1) := by decide +kernel
theorem dc_O_look_89 : decode cb_O_look 89 = .ok (.ireturn, 1) := by decide +kernel
theorem dc_O_look_90 : decode cb_O_look 90 = .ok (.aload_n 0, 1) := by decide +kernel
theorem dc_O_look_91 : decode cb_O_look 91 = .ok (.getfield 49, 3) := by decide +kernel
theorem dc_O_look_94 : decode cb_O_look 94 = .ok (.iload_n 1, 1) := by decide +kernel
theorem dc_O_look_95 : decode cb_O_look 95 = .ok (.iaload, 1) := by decide +kernel
theorem dc_O_look_96 : decode cb_O_look 96 = .ok (.ireturn, 1) := by decide +kernel
theorem dc_O_look_97 : decode cb_O_look 97 = .ok (.aload_n 0, 1) := by decide +kernel
theorem dc_O_look_98 : decode cb_O_look 98 = .ok (.getfield 31, 3) := by decide +kernel
theorem dc_O_look_101 : decode cb_O_look 101 = .ok (.iload_n 1, 1) := by decide +kernel
theorem dc_O_look_102 : decode cb_O_look 102 = .ok (.iaload, 1) := by decide +kernel
theorem dc_O_look_103 : decode cb_O_look 103 = .ok (.ireturn, 1) := by decide +kernel
theorem dc_O_look_104 : decode cb_O_look 104 = .ok (.aload_n 0, 1) := by decide +kernel
theorem dc_O_look_105 : decode cb_O_look 105 = .ok (.getfield 40, 3) := by decide +kernel
theorem dc_O_look_108 : decode cb_O_look 108 = .ok (.iload_n 1, 1) := by decide +kernel
theorem dc_O_look_109 : decode cb_O_look 109 = .ok (.iaload, 1) := by decide +kernel
theorem dc_O_look_110 : decode cb_O_look 110 = .ok (.ireturn, 1) := by decide +kernel
theorem dc_O_look_111 : decode cb_O_look 111 = .ok (.aload_n 0, 1) := by decide +kernel
theorem dc_O_look_112 : decode cb_O_look 112 = .ok (.getfield 73, 3) := by decide +kernel
theorem dc_O_look_115 : decode cb_O_look 115 = .ok (.iload_n 1, 1) := by decide +kernel
theorem dc_O_look_116 : decode cb_O_look 116 = .ok (.baload, 1) := by decide +kernel
theorem dc_O_look_117 : decode cb_O_look 117 = .ok (.ifCond .eq 7, 3) := by decide +kernel
theorem dc_O_look_120 : decode cb_O_look 120 = .ok (.iconst 1, 1) := by decide +kernel
theorem dc_O_look_121 : decode cb_O_look 121 = .ok (.goto 4, 3) := by decide +kernel
theorem dc_O_look_124 : decode cb_O_look 124 = .ok (.iconst 0, 1) := by decide +kernel
theorem dc_O_look_125 : decode cb_O_look 125 = .ok (.ireturn, 1) := by decide +kernel
theorem dc_O_look_126 : decode cb_O_look 126 = .ok (.aload_n 0, 1) := by decide +kernel
theorem dc_O_look_127 : decode cb_O_look 127 = .ok (.getfield 52, 3) := by decide +kernel
theorem dc_O_look_130 : decode cb_O_look 130 = .ok (.iload_n 1, 1) := by decide +kernel
theorem dc_O_look_131 : decode cb_O_look 131 = .ok (.iaload, 1) := by decide +kernel
theorem dc_O_look_132 : decode cb_O_look 132 = .ok (.ireturn, 1) := by decide +kernel
theorem dc_O_look_133 : decode cb_O_look 133 = .ok (.aload_n 0, 1) := by decide +kernel
theorem dc_O_look_134 : decode cb_O_look 134 = .ok (.getfield 55, 3) := by decide +kernel
theorem dc_O_look_137 : decode cb_O_look 137 = .ok (.iload_n 1, 1) := by decide +kernel
theorem dc_O_look_138 : decode cb_O_look 138 = .ok (.iaload, 1) := by decide +kernel
theorem dc_O_look_139 : decode cb_O_look 139 = .ok (.ireturn, 1) := by decide +kernel
theorem dc_O_look_140 : decode cb_O_look 140 = .ok (.aload_n 0, 1) := by decide +kernel
theorem dc_O_look_141 : decode cb_O_look 141 = .ok (.getfield 58, 3) := by decide +kernel
theorem dc_O_look_144 : decode cb_O_look 144 = .ok (.iload_n 1, 1) := by decide +kernel
theorem dc_O_look_145 : decode cb_O_look 145 = .ok (.iaload, 1) := by decide +kernel
theorem dc_O_look_146 : decode cb_O_look 146 = .ok (.ireturn, 1) := by decide +kernel
theorem dc_O_look_147 : decode cb_O_look 147 = .ok (.aload_n 0, 1) := by decide +kernel
theorem dc_O_look_148 : decode cb_O_look 148 = .ok (.getfield 101, 3) := by decide +kernel
theorem dc_O_look_151 : decode cb_O_look 151 = .ok (.iload_n 1, 1) := by decide +kernel
theorem dc_O_look_152 : decode cb_O_look 152 = .ok (.iaload, 1) := by decide +kernel
theorem dc_O_look_153 : decode cb_O_look 153 = .ok (.ireturn, 1) := by decide +kernel
theorem dc_O_look_154 : decode cb_O_look 154 = .ok (.aload_n 0, 1) := by decide +kernel
theorem dc_O_look_155 : decode cb_O_look 155 = .ok (.iconst 1, 1) := by decide +kernel
theorem dc_O_look_156 : decode cb_O_look 156 = .ok (.invokevirtual 124, 3) := by decide +kernel
theorem dc_O_look_159 : decode cb_O_look 159 = .ok (.ireturn, 1) := by decide +kernel
theorem dc_O_lock_0 : decode cb_O_lock 0 = .ok (.aload_n 0, 1) := by decide +kernel
theorem dc_O_lock_1 : decode cb_O_lock 1 = .ok (.iconst 0, 1) := by decide +kernel
theorem dc_O_lock_2 : decode cb_O_lock 2 = .ok (.putfield 114, 3) := by decide +kernel
theorem dc_O_lock_5 : decode cb_O_lock 5 = .ok (.iload_n 1, 1) := by decide +kernel
theorem dc_O_lock_6 : decode cb_O_lock 6 = .ok (.iconst 0, 1) := by decide +kernel
theorem dc_O_lock_7 : decode cb_O_lock 7 = .ok (.iconst 2, 1) := by decide +kernel
theorem dc_O_lock_8 : decode cb_O_lock 8 = .ok (.invokestatic 117, 3) := by decide +kernel
theorem dc_O_lock_11 : decode cb_O_lock 11 = .ok (.ifCond .eq 12, 3) := by decide +kernel
theorem dc_O_lock_14 : decode cb_O_lock 14 = .ok (.iload_n 2, 1) := by decide +kernel
theorem dc_O_lock_15 : decode cb_O_lock 15 = .ok (.iconst 0, 1) := by decide +kernel
theorem dc_O_lock_16 : decode cb_O_lock 16 = .ok (.iconst 3, 1) := by decide +kernel
theorem dc_O_lock_17 : decode cb_O_lock 17 = .ok (.invokestatic 117, 3) := by decide +kernel
theorem dc_O_lock_20 : decode cb_O_lock 20 = .ok (.ifCond .ne 9, 3) := by decide +kernel
theorem dc_O_lock_23 : decode cb_O_lock 23 = .ok (.aload_n 0, 1) := by decide +kernel
theorem dc_O_lock_24 : decode cb_O_lock 24 = .ok (.iconst 1, 1) := by decide +kernel
theorem dc_O_lock_25 : decode cb_O_lock 25 = .ok (.invokevirtual 124, 3) := by decide +kernel
theorem dc_O_lock_28 : decode cb_O_lock 28 = .ok (.ireturn, 1) := by decide +kernel
theorem dc_O_lock_29 : decode cb_O_lock 29 = .ok (.iload_n 2, 1) := by decide +kernel
theorem dc_O_lock_30 : decode cb_O_lock 30 = .ok (.ifCond .ne 12, 3) := by decide +kernel
theorem dc_O_lock_33 : decode cb_O_lock 33 = .ok (.aload_n 0, 1) := by decide +kernel
theorem dc_O_lock_34 : decode cb_O_lock 34 = .ok (.getfield 80, 3) := by decide +kernel
theorem dc_O_lock_37 : decode cb_O_lock 37 = .ok (.iload_n 1, 1) := by decide +kernel
theorem dc_O_lock_38 : decode cb_O_lock 38 = .ok (.iaload, 1) := by decide +kernel
theorem dc_O_lock_39 : decode cb_O_lock 39 = .ok (.goto 37, 3) := by decide +kernel
theorem dc_O_lock_42 : decode cb_O_lock 42 = .ok (.iload_n 2, 1) := by decide +kernel
theorem dc_O_lock_43 : decode cb_O_lock 43 = .ok (.iconst 1, 1) := by decide +kernel
theorem dc_O_lock_44 : decode cb_O_lock 44 = .ok (.if_icmp .ne 12, 3) := by decide +kernel
theorem dc_O_lock_47 : decode cb_O_lock 47 = .ok (.aload_n 0, 1) := by decide +kernel
theorem dc_O_lock_48 : decode cb_O_lock 48 = .ok (.getfield 83, 3) := by decide +kernel
theorem dc_O_lock_51 : decode cb_O_lock 51 = .ok (.iload_n 1, 1) := by decide +kernel
theorem dc_O_lock_52 : decode cb_O_lock 52 = .ok (.iaload, 1) := by decide +kernel
theorem dc_O_lock_53 : decode cb_O_lock 53 = .ok (.goto 23, 3) := by decide +kernel
theorem dc_O_lock_56 : decode cb_O_lock 56 = .ok (.iload_n 2, 1) := by decide +kernel
theorem dc_O_lock_57 : decode cb_O_lock 57 = .ok (.iconst 2, 1) := by decide +kernel
theorem dc_O_lock_58 : decode cb_O_lock 58 = .ok (.if_icmp .ne 12, 3) := by decide +kernel
theorem dc_O_lock_61 : decode cb_O_lock 61 = .ok (.aload_n 0, 1) := by decide +kernel
theorem dc_O_lock_62 : decode cb_O_lock 62 = .ok (.getfield 89, 3) := by decide +kernel
theorem dc_O_lock_65 : decode cb_O_lock 65 = .ok (.iload_n 1, 1) := by decide +kernel
theorem dc_O_lock_66 : decode cb_O_lock 66 = .ok (.iaload, 1) := by decide +kernel
theorem dc_O_lock_67 : decode cb_O_lock 67 = .ok (.goto 9, 3) := by decide +kernel
theorem dc_O_lock_70 : decode cb_O_lock 70 = .ok (.aload_n 0, 1) := by decide +kernel
theorem dc_O_lock_71 : decode cb_O_lock 71 = .ok (.getfield 95, 3) := by decide +kernel
theorem dc_O_lock_74 : decode cb_O_lock 74 = .ok (.iload_n 1, 1) := by decide +kernel
theorem dc_O_lock_75 : decode cb_O_lock 75 = .ok (.iaload, 1) := by decide +kernel
theorem dc_O_lock_76 : decode cb_O_lock 76 = .ok (.ireturn, 1) := by decide +kernel
theorem dc_O_said_0 : decode cb_O_said 0 = .ok (.aload_n 0, 1) := by decide +kernel
theorem dc_O_said_1 : decode cb_O_said 1 = .ok (.iconst 0, 1) := by decide +kernel
theorem dc_O_said_2 : decode cb_O_said 2 = .ok (.putfield 114, 3) := by decide +kernel
theorem dc_O_said_5 : decode cb_O_said 5 = .ok (.iload_n 1, 1) := by decide +kernel
theorem dc_O_said_6 : decode cb_O_said 6 = .ok (.iconst 0, 1) := by decide +kernel
theorem dc_O_said_7 : decode cb_O_said 7 = .ok (.bipush 39, 2) := by decide +kernel
theorem dc_O_said_9 : decode cb_O_said 9 = .ok (.invokestatic 117, 3) := by decide +kernel
theorem dc_O_said_12 : decode cb_O_said 12 = .ok (.ifCond .eq 22, 3) := by decide +kernel
theorem dc_O_said_15 : decode cb_O_said 15 = .ok (.iload_n 1, 1) := by decide +kernel
theorem dc_O_said_16 : decode cb_O_said 16 = .ok (.aload_n 0, 1) := by decide +kernel
theorem dc_O_said_17 : decode cb_O_said 17 = .ok (.getfield 107, 3) := by decide +kernel
theorem dc_O_said_20 : decode cb_O_said 20 = .ok (.iconst 0, 1) := by decide +kernel
theorem dc_O_said_21 : decode cb_O_said 21 = .ok (.iaload, 1) := by decide +kernel
theorem dc_O_said_22 : decode cb_O_said 22 = .ok (.if_icmp .ge 12, 3) := by decide +kernel
theorem dc_O_said_25 : decode cb_O_said 25 = .ok (.aload_n 0, 1) := by decide +kernel
theorem dc_O_said_26 : decode cb_O_said 26 = .ok (.getfield 104, 3) := by decide +kernel
theorem dc_O_said_29 : decode cb_O_said 29 = .ok (.iload_n 1, 1) := by decide +kernel
theorem dc_O_said_30 : decode cb_O_said 30 = .ok (.iaload, 1) := by decide +kernel
theorem dc_O_said_31 : decode cb_O_said 31 = .ok (.goto 8, 3) := by decide +kernel
theorem dc_O_said_34 : decode cb_O_said 34 = .ok (.aload_n 0, 1) := by decide +kernel
theorem dc_O_said_35 : decode cb_O_said 35 = .ok (.iconst 1, 1) := by decide +kernel
theorem dc_O_said_36 : decode cb_O_said 36 = .ok (.invokevirtual 124, 3) := by decide +kernel
theorem dc_O_said_39 : decode cb_O_said 39 = .ok (.ireturn, 1) := by decide +kernel
theorem dc_O_count_0 : decode cb_O_count 0 = .ok (.aload_n 0, 1) := by decide +kernel
theorem dc_O_count_1 : decode cb_O_count 1 = .ok (.iconst 0, 1) := by decide +kernel
theorem dc_O_count_2 : decode cb_O_count 2 = .ok (.putfield 114, 3) := by decide +kernel
theorem dc_O_count_5 : decode cb_O_count 5 = .ok (.iload_n 1, 1) := by decide +kernel
theorem dc_O_count_6 : decode cb_O_count 6 = .ok (.iconst 0, 1) := by decide +kernel
theorem dc_O_count_7 : decode cb_O_count 7 = .ok (.bipush 7, 2) := by decide +kernel
theorem dc_O_count_9 : decode cb_O_count 9 = .ok (.invokestatic 117, 3) := by decide +kernel
theorem dc_O_count_12 : decode cb_O_count 12 = .ok (.ifCond .ne 9, 3) := by decide +kernel
theorem dc_O_count_15 : decode cb_O_count 15 = .ok (.aload_n 0, 1) := by decide +kernel
theorem dc_O_count_16 : decode cb_O_count 16 = .ok (.iconst 1, 1) := by decide +kernel
theorem dc_O_count_17 : decode cb_O_count 17 = .ok (.invokevirtual 124, 3) := by decide +kernel
theorem dc_O_count_20 : decode cb_O_count 20 = .ok (.ireturn, 1) := by decide +kernel
theorem dc_O_count_21 : decode cb_O_count 21 = .ok (.iload_n 1, 1) := by decide +kernel
theorem dc_O_count_22 : decode cb_O_count 22 = .ok (.iconst 3, 1) := by decide +kernel
theorem dc_O_count_23 : decode cb_O_count 23 = .ok (.if_icmp .eq 15, 3) := by decide +kernel
theorem dc_O_count_26 : decode cb_O_count 26 = .ok (.iload_n 1, 1) := by decide +kernel
theorem dc_O_count_27 : decode cb_O_count 27 = .ok (.iconst 4, 1) := by decide +kernel
theorem dc_O_count_28 : decode cb_O_count 28 = .ok (.if_icmp .eq 10, 3) := by decide +kernel
theorem dc_O_count_31 : decode cb_O_count 31 = .ok (.aload_n 0, 1) := by decide +kernel
theorem dc_O_count_32 : decode cb_O_count 32 = .ok (.getfield 107, 3) := by decide +kernel
theorem dc_O_count_35 : decode cb_O_count 35 = .ok (.iload_n 1, 1) := by decide +kernel
theorem dc_O_count_36 : decode cb_O_count 36 = .ok (.iaload, 1) := by decide +kernel
theorem dc_O_count_37 : decode cb_O_count 37 = .ok (.ireturn, 1) := by decide +kernel
theorem dc_O_count_38 : decode cb_O_count 38 = .ok (.iconst 0, 1) := by decide +kernel
theorem dc_O_count_39 : decode cb_O_count 39 = .ok (.istore_n 2, 1) := by decide +kernel
theorem dc_O_count_40 : decode cb_O_count 40 = .ok (.iconst 0, 1) := by decide +kernel
theorem dc_O_count_41 : decode cb_O_count 41 = .ok (.istore_n 3, 1) := by decide +kernel
theorem dc_O_count_42 : decode cb_O_count 42 = .ok (.iload_n 3, 1) := by decide +kernel
theorem dc_O_count_43 : decode cb_O_count 43 = .ok (.iconst 5, 1) := by decide +kernel
theorem dc_O_count_44 : decode cb_O_count 44 = .ok (.if_icmp .ge 38, 3) := by decide +kernel
theorem dc_O_count_47 : decode cb_O_count 47 = .ok (.iload_n 1, 1) := by decide +kernel
theorem dc_O_count_48 : decode cb_O_count 48 = .ok (.iconst 3, 1) := by decide +kernel
theorem dc_O_count_49 : decode cb_O_count 49 = .ok (.if_icmp .ne 14, 3) := by decide +kernel
theorem dc_O_count_52 : decode cb_O_count 52 = .ok (.aload_n 0, 1) := by decide +kernel
theorem dc_O_count_53 : decode cb_O_count 53 = .ok (.iload_n 3, 1) := by decide +kernel
theorem dc_O_count_54 : decode cb_O_count 54 = .ok (.invokevirtual 128, 3) := by decide +kernel
theorem dc_O_count_57 : decode cb_O_count 57 = .ok (.ifCond .eq 19, 3) := by decide +kernel
theorem dc_O_count_60 : decode cb_O_count 60 = .ok (.goto 13, 3) := by decide +kernel
theorem dc_O_count_63 : decode cb_O_count 63 = .ok (.aload_n 0, 1) := by decide +kernel
theorem dc_O_count_64 : decode cb_O_count 64 = .ok (.getfield 43, 3) := by decide +kernel
theorem dc_O_count_67 : decode cb_O_count 67 = .ok (.iload_n 3, 1) := by decide +kernel
theorem dc_O_count_68 : decode cb_O_count 68 = .ok (.iaload, 1) := by decide +kernel
theorem dc_O_count_69 : decode cb_O_count 69 = .ok (.iconst 1, 1) := by decide +kernel
theorem dc_O_count_70 : decode cb_O_count 70 = .ok (.if_icmp .ne 6, 3) := by decide +kernel
theorem dc_O_count_73 : decode cb_O_count 73 = .ok (.iinc 2 1, 3) := by decide +kernel
theorem dc_O_count_76 : decode cb_O_count 76 = .ok (.iinc 3 1, 3) := by decide +kernel
theorem dc_O_count_79 : decode cb_O_count 79 = .ok (.goto (-37), 3) := by decide +kernel
theorem dc_O_count_82 : decode cb_O_count 82 = .ok (.iload_n 2, 1) := by decide +kernel
theorem dc_O_count_83 : decode cb_O_count 83 = .ok (.ireturn, 1) := by decide +kernel
theorem th_b_6 : (Int8.ofInt 6).toInt32 = 6 := by decide
theorem th_b_7 : (Int8.ofInt 7).toInt32 = 7 := by decide
theorem th_b_20 : (Int8.ofInt 20).toInt32 = 20 := by decide
theorem th_b_24 : (Int8.ofInt 24).toInt32 = 24 := by decide
theorem th_b_39 : (Int8.ofInt 39).toInt32 = 39 := by decide
theorem th_b_40 : (Int8.ofInt 40).toInt32 = 40 := by decide
theorem th_c_m1 : Int32.ofInt (-1) = -1 := by decide
theorem th_c_0 : Int32.ofInt 0 = 0 := by decide
theorem th_c_1 : Int32.ofInt 1 = 1 := by decide
theorem th_c_2 : Int32.ofInt 2 = 2 := by decide
theorem th_c_3 : Int32.ofInt 3 = 3 := by decide
theorem th_c_4 : Int32.ofInt 4 = 4 := by decide
theorem th_c_5 : Int32.ofInt 5 = 5 := by decide
theorem th_c_21 : Int32.ofInt 21 = 21 := by decide
theorem th_c_24 : Int32.ofInt 24 = 24 := by decide
theorem th_l_m1 : (-1 : Int32).toInt = -1 := by decide
theorem th_l_0 : (0 : Int32).toInt = 0 := by decide
theorem th_l_1 : (1 : Int32).toInt = 1 := by decide
theorem th_l_2 : (2 : Int32).toInt = 2 := by decide
theorem th_l_3 : (3 : Int32).toInt = 3 := by decide
theorem th_l_4 : (4 : Int32).toInt = 4 := by decide
theorem th_l_5 : (5 : Int32).toInt = 5 := by decide
theorem th_l_6 : (6 : Int32).toInt = 6 := by decide
theorem th_l_7 : (7 : Int32).toInt = 7 := by decide
theorem th_l_20 : (20 : Int32).toInt = 20 := by decide
theorem th_l_21 : (21 : Int32).toInt = 21 := by decide
theorem th_l_24 : (24 : Int32).toInt = 24 := by decide
theorem th_l_39 : (39 : Int32).toInt = 39 := by decide
theorem th_l_40 : (40 : Int32).toInt = 40 := by decide
theorem fd_H_11 : th_fd rn_H 11 tf_H 12 0 := ⟨by decide, (tb 225 (by decide +kernel) rfl)⟩
theorem fd_H_20 : th_fd rn_H 20 tf_H 12 1 := ⟨by decide, (tb 226 (by decide +kernel) rfl)⟩
theorem fd_H_27 : th_fd rn_H 27 tf_H 12 2 := ⟨by decide, (tb 227 (by decide +kernel) rfl)⟩
theorem fd_H_32 : th_fd rn_H 32 tf_H 12 3 := ⟨by decide, (tb 228 (by decide +kernel) rfl)⟩
theorem fd_H_39 : th_fd rn_H 39 tf_H 12 6 := ⟨by decide, (tb 231 (by decide +kernel) rfl)⟩
theorem fd_H_43 : th_fd rn_H 43 tf_H 12 7 := ⟨by decide, (tb 232 (by decide +kernel) rfl)⟩
theorem fd_H_63 : th_fd rn_H 63 tf_S 18 1 := ⟨by decide, (tb 136 (by decide +kernel) rfl)⟩
theorem fd_H_67 : th_fd rn_H 67 tf_P 4 3 := ⟨by decide, (tb 88 (by decide +kernel) rfl)⟩
theorem fd_H_89 : th_fd rn_H 89 tf_H 12 9 := ⟨by decide, (tb 234 (by decide +kernel) rfl)⟩
theorem fd_H_106 : th_fd rn_H 106 tf_S 18 5 := ⟨by decide, (tb 144 (by decide +kernel) rfl)⟩
theorem fd_H_109 : th_fd rn_H 109 tf_S 18 6 := ⟨by decide, (tb 146 (by decide +kernel) rfl)⟩
theorem fd_H_112 : th_fd rn_H 112 tf_S 18 7 := ⟨by decide, (tb 147 (by decide +kernel) rfl)⟩
theorem fd_H_115 : th_fd rn_H 115 tf_S 18 2 := ⟨by decide, (tb 138 (by decide +kernel) rfl)⟩
theorem fd_H_119 : th_fd rn_H 119 tf_Q 3 2 := ⟨by decide, (tb 111 (by decide +kernel) rfl)⟩
theorem fd_H_122 : th_fd rn_H 122 tf_S 18 3 := ⟨by decide, (tb 140 (by decide +kernel) rfl)⟩
theorem fd_H_125 : th_fd rn_H 125 tf_S 18 11 := ⟨by decide, (tb 155 (by decide +kernel) rfl)⟩
theorem fd_H_129 : th_fd rn_H 129 tf_S 18 8 := ⟨by decide, (tb 149 (by decide +kernel) rfl)⟩
theorem fd_H_132 : th_fd rn_H 132 tf_S 18 9 := ⟨by decide, (tb 151 (by decide +kernel) rfl)⟩
theorem fd_H_135 : th_fd rn_H 135 tf_S 18 10 := ⟨by decide, (tb 153 (by decide +kernel) rfl)⟩
theorem fd_H_138 : th_fd rn_H 138 tf_S 18 4 := ⟨by decide, (tb 142 (by decide +kernel) rfl)⟩
theorem fd_H_142 : th_fd rn_H 142 tf_R 2 1 := ⟨by decide, (tb 127 (by decide +kernel) rfl)⟩
theorem fd_H_146 : th_fd rn_H 146 tf_M 3 1 := ⟨by decide, (tb 212 (by decide +kernel) rfl)⟩
theorem fd_H_149 : th_fd rn_H 149 tf_M 3 2 := ⟨by decide, (tb 214 (by decide +kernel) rfl)⟩
theorem fd_H_152 : th_fd rn_H 152 tf_M 3 0 := ⟨by decide, (tb 210 (by decide +kernel) rfl)⟩
theorem fd_H_155 : th_fd rn_H 155 tf_H 12 5 := ⟨by decide, (tb 230 (by decide +kernel) rfl)⟩
theorem fd_H_158 : th_fd rn_H 158 tf_H 12 8 := ⟨by decide, (tb 233 (by decide +kernel) rfl)⟩
theorem fd_H_167 : th_fd rn_H 167 tf_H 12 10 := ⟨by decide, (tb 235 (by decide +kernel) rfl)⟩
theorem fd_H_170 : th_fd rn_H 170 tf_H 12 11 := ⟨by decide, (tb 236 (by decide +kernel) rfl)⟩
theorem fd_Q_9 : th_fd rn_Q 9 tf_Q 3 0 := ⟨by decide, (tb 105 (by decide +kernel) rfl)⟩
theorem fd_Q_15 : th_fd rn_Q 15 tf_Q 3 1 := ⟨by decide, (tb 107 (by decide +kernel) rfl)⟩
theorem fd_Q_18 : th_fd rn_Q 18 tf_Q 3 2 := ⟨by decide, (tb 109 (by decide +kernel) rfl)⟩
theorem fd_P_9 : th_fd rn_P 9 tf_P 4 0 := ⟨by decide, (tb 81 (by decide +kernel) rfl)⟩
theorem fd_P_15 : th_fd rn_P 15 tf_P 4 1 := ⟨by decide, (tb 83 (by decide +kernel) rfl)⟩
theorem fd_P_18 : th_fd rn_P 18 tf_P 4 2 := ⟨by decide, (tb 85 (by decide +kernel) rfl)⟩
theorem fd_P_21 : th_fd rn_P 21 tf_P 4 3 := ⟨by decide, (tb 87 (by decide +kernel) rfl)⟩
theorem fd_R_9 : th_fd rn_R 9 tf_R 2 0 := ⟨by decide, (tb 125 (by decide +kernel) rfl)⟩
theorem fd_S_23 : th_fd rn_S 23 tf_S 18 2 := ⟨by decide, (tb 137 (by decide +kernel) rfl)⟩
theorem fd_S_27 : th_fd rn_S 27 tf_S 18 3 := ⟨by decide, (tb 139 (by decide +kernel) rfl)⟩
theorem fd_S_37 : th_fd rn_S 37 tf_S 18 5 := ⟨by decide, (tb 143 (by decide +kernel) rfl)⟩
theorem fd_S_41 : th_fd rn_S 41 tf_S 18 8 := ⟨by decide, (tb 148 (by decide +kernel) rfl)⟩
theorem fd_S_50 : th_fd rn_S 50 tf_S 18 6 := ⟨by decide, (tb 145 (by decide +kernel) rfl)⟩
theorem fd_S_53 : th_fd rn_S 53 tf_S 18 9 := ⟨by decide, (tb 150 (by decide +kernel) rfl)⟩
theorem fd_S_56 : th_fd rn_S 56 tf_S 18 10 := ⟨by decide, (tb 152 (by decide +kernel) rfl)⟩
theorem fd_S_59 : th_fd rn_S 59 tf_Q 3 2 := ⟨by decide, (tb 110 (by decide +kernel) rfl)⟩
theorem fd_S_65 : th_fd rn_S 65 tf_S 18 11 := ⟨by decide, (tb 154 (by decide +kernel) rfl)⟩
theorem fd_S_69 : th_fd rn_S 69 tf_S 18 12 := ⟨by decide, (tb 156 (by decide +kernel) rfl)⟩
theorem fd_O_7 : th_fd rn_O 7 tf_O 36 0 := ⟨by decide, (tb 628 (by decide +kernel) rfl)⟩
theorem fd_O_13 : th_fd rn_O 13 tf_O 36 1 := ⟨by decide, (tb 629 (by decide +kernel) rfl)⟩
theorem fd_O_16 : th_fd rn_O 16 tf_O 36 2 := ⟨by decide, (tb 630 (by decide +kernel) rfl)⟩
theorem fd_O_19 : th_fd rn_O 19 tf_O 36 3 := ⟨by decide, (tb 631 (by decide +kernel) rfl)⟩
theorem fd_O_22 : th_fd rn_O 22 tf_O 36 4 := ⟨by decide, (tb 632 (by decide +kernel) rfl)⟩
theorem fd_O_31 : th_fd rn_O 31 tf_O 36 7 := ⟨by decide, (tb 635 (by decide +kernel) rfl)⟩
theorem fd_O_40 : th_fd rn_O 40 tf_O 36 10 := ⟨by decide, (tb 638 (by decide +kernel) rfl)⟩
theorem fd_O_43 : th_fd rn_O 43 tf_O 36 11 := ⟨by decide, (tb 639 (by decide +kernel) rfl)⟩
theorem fd_O_46 : th_fd rn_O 46 tf_O 36 12 := ⟨by decide, (tb 640 (by decide +kernel) rfl)⟩
theorem fd_O_49 : th_fd rn_O 49 tf_O 36 13 := ⟨by decide, (tb 641 (by decide +kernel) rfl)⟩
theorem fd_O_52 : th_fd rn_O 52 tf_O 36 14 := ⟨by decide, (tb 642 (by decide +kernel) rfl)⟩
theorem fd_O_55 : th_fd rn_O 55 tf_O 36 15 := ⟨by decide, (tb 643 (by decide +kernel) rfl)⟩
theorem fd_O_58 : th_fd rn_O 58 tf_O 36 16 := ⟨by decide, (tb 644 (by decide +kernel) rfl)⟩
theorem fd_O_73 : th_fd rn_O 73 tf_O 36 21 := ⟨by decide, (tb 649 (by decide +kernel) rfl)⟩
theorem fd_O_77 : th_fd rn_O 77 tf_O 36 22 := ⟨by decide, (tb 650 (by decide +kernel) rfl)⟩
theorem fd_O_80 : th_fd rn_O 80 tf_O 36 23 := ⟨by decide, (tb 651 (by decide +kernel) rfl)⟩
theorem fd_O_83 : th_fd rn_O 83 tf_O 36 24 := ⟨by decide, (tb 652 (by decide +kernel) rfl)⟩
theorem fd_O_89 : th_fd rn_O 89 tf_O 36 26 := ⟨by decide, (tb 654 (by decide +kernel) rfl)⟩
theorem fd_O_95 : th_fd rn_O 95 tf_O 36 28 := ⟨by decide, (tb 656 (by decide +kernel) rfl)⟩
theorem fd_O_101 : th_fd rn_O 101 tf_O 36 30 := ⟨by decide, (tb 658 (by decide +kernel) rfl)⟩
theorem fd_O_107 : th_fd rn_O 107 tf_O 36 32 := ⟨by decide, (tb 660 (by decide +kernel) rfl)⟩
theorem fd_O_110 : th_fd rn_O 110 tf_O 36 33 := ⟨by decide, (tb 661 (by decide +kernel) rfl)⟩
theorem fd_O_114 : th_fd rn_O 114 tf_O 36 34 := ⟨by decide, (tb 662 (by decide +kernel) rfl)⟩
theorem ok_H_46 : th_okS rn_H 46 yn_H_requireBelow cb_H_requireBelow 2 none 2 := ⟨⟨(tb 274 (by decide +kernel) rfl), (tb 47 (by decide +kernel) rfl), (tb 272 (by decide +kernel) rfl), by decide, by decide, by decide⟩, (tb 273 (by decide +kernel) rfl)⟩
theorem ok_H_53 : th_okS rn_H 53 yn_H_requireOperand cb_H_requireOperand 2 none 2 := ⟨⟨(tb 345 (by decide +kernel) rfl), (tb 47 (by decide +kernel) rfl), (tb 343 (by decide +kernel) rfl), by decide, by decide, by decide⟩, (tb 344 (by decide +kernel) rfl)⟩
theorem ok_H_59 : th_okS rn_H 59 yn_H_requireNotAlive cb_H_requireNotAlive 1 none 1 := ⟨⟨(tb 350 (by decide +kernel) rfl), (tb 47 (by decide +kernel) rfl), (tb 348 (by decide +kernel) rfl), by decide, by decide, by decide⟩, (tb 349 (by decide +kernel) rfl)⟩
theorem ok_H_75 : th_okV rn_H 75 rn_P yn_P_append cb_P_append 4 none 3 := ⟨⟨(tb 388 (by decide +kernel) rfl), (tb 49 (by decide +kernel) rfl), (tb 385 (by decide +kernel) rfl), by decide, by decide, by decide⟩, (tb 386 (by decide +kernel) rfl), (tb 387 (by decide +kernel) rfl)⟩
theorem ok_H_79 : th_okV rn_H 79 rn_S yn_S_isAlive cb_S_isAlive 1 (some .boolean) 0 := ⟨⟨(tb 354 (by decide +kernel) rfl), (tb 48 (by decide +kernel) rfl), (tb 351 (by decide +kernel) rfl), by decide, by decide, by decide⟩, (tb 352 (by decide +kernel) rfl), (tb 353 (by decide +kernel) rfl)⟩
theorem ok_H_83 : th_okV rn_H 83 rn_S yn_S_beginAnew cb_S_beginAnew 1 none 0 := ⟨⟨(tb 406 (by decide +kernel) rfl), (tb 48 (by decide +kernel) rfl), (tb 403 (by decide +kernel) rfl), by decide, by decide, by decide⟩, (tb 404 (by decide +kernel) rfl), (tb 405 (by decide +kernel) rfl)⟩
theorem ok_H_86 : th_okS rn_H 86 yn_H_requireBetween cb_H_requireBetween 3 none 3 := ⟨⟨(tb 277 (by decide +kernel) rfl), (tb 47 (by decide +kernel) rfl), (tb 275 (by decide +kernel) rfl), by decide, by decide, by decide⟩, (tb 276 (by decide +kernel) rfl)⟩
theorem ok_H_92 : th_okV rn_H 92 rn_H yn_H_nextReady cb_H_nextReady 3 (some .int) 0 := ⟨⟨(tb 425 (by decide +kernel) rfl), (tb 47 (by decide +kernel) rfl), (tb 422 (by decide +kernel) rfl), by decide, by decide, by decide⟩, (tb 424 (by decide +kernel) rfl), (tb 1 (by decide +kernel) rfl)⟩
theorem ok_H_102 : th_okV rn_H 102 rn_H yn_H_read cb_H_read 4 (some .int) 2 := ⟨⟨(tb 446 (by decide +kernel) rfl), (tb 47 (by decide +kernel) rfl), (tb 443 (by decide +kernel) rfl), by decide, by decide, by decide⟩, (tb 445 (by decide +kernel) rfl), (tb 6 (by decide +kernel) rfl)⟩
theorem ok_H_161 : th_okV rn_H 161 rn_H yn_H_aliveCount cb_H_aliveCount 3 (some .int) 0 := ⟨⟨(tb 617 (by decide +kernel) rfl), (tb 47 (by decide +kernel) rfl), (tb 614 (by decide +kernel) rfl), by decide, by decide, by decide⟩, (tb 616 (by decide +kernel) rfl), (tb 22 (by decide +kernel) rfl)⟩
theorem ok_H_164 : th_okV rn_H 164 rn_H yn_H_readyCount cb_H_readyCount 3 (some .int) 0 := ⟨⟨(tb 621 (by decide +kernel) rfl), (tb 47 (by decide +kernel) rfl), (tb 618 (by decide +kernel) rfl), by decide, by decide, by decide⟩, (tb 620 (by decide +kernel) rfl), (tb 23 (by decide +kernel) rfl)⟩
theorem ok_H_251 : th_okV rn_H 251 rn_Q yn_Q_latest cb_Q_latest 3 (some .int) 1 := ⟨⟨(tb 450 (by decide +kernel) rfl), (tb 50 (by decide +kernel) rfl), (tb 447 (by decide +kernel) rfl), by decide, by decide, by decide⟩, (tb 448 (by decide +kernel) rfl), (tb 449 (by decide +kernel) rfl)⟩
theorem ok_S_47 : th_okV rn_S 47 rn_S yn_S_forgetAll cb_S_forgetAll 1 none 0 := ⟨⟨(tb 410 (by decide +kernel) rfl), (tb 48 (by decide +kernel) rfl), (tb 407 (by decide +kernel) rfl), by decide, by decide, by decide⟩, (tb 408 (by decide +kernel) rfl), (tb 409 (by decide +kernel) rfl)⟩
theorem ok_S_62 : th_okV rn_S 62 rn_S yn_S_forgetInterrupt cb_S_forgetInterrupt 1 none 0 := ⟨⟨(tb 414 (by decide +kernel) rfl), (tb 48 (by decide +kernel) rfl), (tb 411 (by decide +kernel) rfl), by decide, by decide, by decide⟩, (tb 412 (by decide +kernel) rfl), (tb 413 (by decide +kernel) rfl)⟩
theorem ok_O_117 : th_okS rn_O 117 yn_O_is cb_O_is 3 (some .boolean) 3 := ⟨⟨(tb 748 (by decide +kernel) rfl), (tb 53 (by decide +kernel) rfl), (tb 746 (by decide +kernel) rfl), by decide, by decide, by decide⟩, (tb 747 (by decide +kernel) rfl)⟩
theorem ok_O_121 : th_okS rn_O 121 yn_O_fits cb_O_fits 3 (some .boolean) 3 := ⟨⟨(tb 751 (by decide +kernel) rfl), (tb 53 (by decide +kernel) rfl), (tb 749 (by decide +kernel) rfl), by decide, by decide, by decide⟩, (tb 750 (by decide +kernel) rfl)⟩
theorem ok_O_124 : th_okV rn_O 124 rn_O yn_O_refuse cb_O_refuse 2 (some .int) 1 := ⟨⟨(tb 755 (by decide +kernel) rfl), (tb 53 (by decide +kernel) rfl), (tb 752 (by decide +kernel) rfl), by decide, by decide, by decide⟩, (tb 754 (by decide +kernel) rfl), (tb 24 (by decide +kernel) rfl)⟩
theorem ok_O_128 : th_okV rn_O 128 rn_O yn_O_alive cb_O_alive 2 (some .boolean) 1 := ⟨⟨(tb 759 (by decide +kernel) rfl), (tb 53 (by decide +kernel) rfl), (tb 756 (by decide +kernel) rfl), by decide, by decide, by decide⟩, (tb 758 (by decide +kernel) rfl), (tb 25 (by decide +kernel) rfl)⟩
theorem ok_O_132 : th_okV rn_O 132 rn_O yn_O_bound cb_O_bound 4 (some .int) 2 := ⟨⟨(tb 791 (by decide +kernel) rfl), (tb 53 (by decide +kernel) rfl), (tb 788 (by decide +kernel) rfl), by decide, by decide, by decide⟩, (tb 790 (by decide +kernel) rfl), (tb 31 (by decide +kernel) rfl)⟩
theorem ok_O_136 : th_okV rn_O 136 rn_O yn_O_get cb_O_get 4 (some .int) 2 := ⟨⟨(tb 787 (by decide +kernel) rfl), (tb 53 (by decide +kernel) rfl), (tb 784 (by decide +kernel) rfl), by decide, by decide, by decide⟩, (tb 786 (by decide +kernel) rfl), (tb 30 (by decide +kernel) rfl)⟩
theorem ok_O_179 : th_okV rn_O 179 rn_O yn_O_begin cb_O_begin 2 (some .boolean) 1 := ⟨⟨(tb 835 (by decide +kernel) rfl), (tb 53 (by decide +kernel) rfl), (tb 832 (by decide +kernel) rfl), by decide, by decide, by decide⟩, (tb 834 (by decide +kernel) rfl), (tb 42 (by decide +kernel) rfl)⟩
theorem ok_O_185 : th_okV rn_O 185 rn_O yn_O_interrupted cb_O_interrupted 2 (some .boolean) 1 := ⟨⟨(tb 843 (by decide +kernel) rfl), (tb 53 (by decide +kernel) rfl), (tb 840 (by decide +kernel) rfl), by decide, by decide, by decide⟩, (tb 842 (by decide +kernel) rfl), (tb 44 (by decide +kernel) rfl)⟩
theorem ok_O_192 : th_okV rn_O 192 rn_O yn_O_ready cb_O_ready 2 (some .int) 0 := ⟨⟨(tb 771 (by decide +kernel) rfl), (tb 53 (by decide +kernel) rfl), (tb 768 (by decide +kernel) rfl), by decide, by decide, by decide⟩, (tb 770 (by decide +kernel) rfl), (tb 26 (by decide +kernel) rfl)⟩
theorem okT_H_72 : th_okT rn_H 72 74 "java/lang/IndexOutOfBoundsException" ["java/lang/RuntimeException", "java/lang/Exception"] := ⟨by decide +kernel, by decide +kernel, (tb 370 (by decide +kernel) rfl), (tb 59 (by decide +kernel) rfl), by decide +kernel, by decide +kernel⟩
theorem okT_H_143 : th_okT rn_H 143 145 "java/lang/IllegalArgumentException" ["java/lang/RuntimeException", "java/lang/Exception"] := ⟨by decide +kernel, by decide +kernel, (tb 278 (by decide +kernel) rfl), (tb 57 (by decide +kernel) rfl), by decide +kernel, by decide +kernel⟩
theorem okT_H_173 : th_okT rn_H 173 175 "java/lang/IllegalStateException" ["java/lang/RuntimeException", "java/lang/Exception"] := ⟨by decide +kernel, by decide +kernel, (tb 355 (by decide +kernel) rfl), (tb 58 (by decide +kernel) rfl), by decide +kernel, by decide +kernel⟩
theorem sl_H_50 : Cond.fieldLink rn_H 50 th_s91.1 th_s91.2.1 "[I" ∈ th_B := (tb 341 (by decide +kernel) rfl)
theorem sl_H_56 : Cond.fieldLink rn_H 56 th_s92.1 th_s92.2.1 "[I" ∈ th_B := (tb 346 (by decide +kernel) rfl)
