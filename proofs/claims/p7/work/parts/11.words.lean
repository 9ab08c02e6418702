theorem cl_16 : th_cl 16 0 rn_M tf_M 3 ft_M := ⟨rfl, rfl, by decide +kernel, ft_M_ok, nm_M⟩
theorem cl_11 : th_cl 11 1 rn_Q tf_Q 3 ft_Q := ⟨rfl, rfl, by decide +kernel, ft_Q_ok, nm_Q⟩
theorem cl_7 : th_cl 7 2 rn_P tf_P 4 ft_P := ⟨rfl, rfl, by decide +kernel, ft_P_ok, nm_P⟩
theorem cl_14 : th_cl 14 3 rn_R tf_R 2 ft_R := ⟨rfl, rfl, by decide +kernel, ft_R_ok, nm_R⟩
theorem cl_6 : th_cl 6 4 rn_S tf_S 18 ft_S := ⟨rfl, rfl, by decide +kernel, ft_S_ok, nm_S⟩
theorem cl_0 : th_cl 0 5 rn_H tf_H 12 ft_H := ⟨rfl, rfl, by decide +kernel, ft_H_ok, nm_H⟩
theorem cl_20 : th_cl 20 6 rn_O tf_O 36 ft_O := ⟨rfl, rfl, by decide +kernel, ft_O_ok, nm_O⟩
theorem dc_S_isAlive_0 : decode cb_S_isAlive 0 = .ok (.aload_n 0, 1) := by decide +kernel
theorem dc_S_isAlive_1 : decode cb_S_isAlive 1 = .ok (.getfield 37, 3) := by decide +kernel
theorem dc_S_isAlive_4 : decode cb_S_isAlive 4 = .ok (.ifCond .eq 15, 3) := by decide +kernel
theorem dc_S_isAlive_7 : decode cb_S_isAlive 7 = .ok (.aload_n 0, 1) := by decide +kernel
theorem dc_S_isAlive_8 : decode cb_S_isAlive 8 = .ok (.getfield 37, 3) := by decide +kernel
theorem dc_S_isAlive_11 : decode cb_S_isAlive 11 = .ok (.iconst 5, 1) := by decide +kernel
theorem dc_S_isAlive_12 : decode cb_S_isAlive 12 = .ok (.if_icmp .eq 7, 3) := by decide +kernel
theorem dc_S_isAlive_15 : decode cb_S_isAlive 15 = .ok (.iconst 1, 1) := by decide +kernel
theorem dc_S_isAlive_16 : decode cb_S_isAlive 16 = .ok (.goto 4, 3) := by decide +kernel
theorem dc_S_isAlive_19 : decode cb_S_isAlive 19 = .ok (.iconst 0, 1) := by decide +kernel
theorem dc_S_isAlive_20 : decode cb_S_isAlive 20 = .ok (.ireturn, 1) := by decide +kernel
theorem dc_S_forgetInterrupt_0 : decode cb_S_forgetInterrupt 0 = .ok (.aload_n 0, 1) := by decide +kernel
theorem dc_S_forgetInterrupt_1 : decode cb_S_forgetInterrupt 1 = .ok (.iconst 0, 1) := by decide +kernel
theorem dc_S_forgetInterrupt_2 : decode cb_S_forgetInterrupt 2 = .ok (.putfield 65, 3) := by decide +kernel
theorem dc_S_forgetInterrupt_5 : decode cb_S_forgetInterrupt 5 = .ok (.aload_n 0, 1) := by decide +kernel
theorem dc_S_forgetInterrupt_6 : decode cb_S_forgetInterrupt 6 = .ok (.iconst 0, 1) := by decide +kernel
theorem dc_S_forgetInterrupt_7 : decode cb_S_forgetInterrupt 7 = .ok (.putfield 69, 3) := by decide +kernel
theorem dc_S_forgetInterrupt_10 : decode cb_S_forgetInterrupt 10 = .ok (.return_, 1) := by decide +kernel
theorem dc_S_forgetAll_0 : decode cb_S_forgetAll 0 = .ok (.aload_n 0, 1) := by decide +kernel
theorem dc_S_forgetAll_1 : decode cb_S_forgetAll 1 = .ok (.getfield 23, 3) := by decide +kernel
theorem dc_S_forgetAll_4 : decode cb_S_forgetAll 4 = .ok (.iconst 0, 1) := by decide +kernel
theorem dc_S_forgetAll_5 : decode cb_S_forgetAll 5 = .ok (.putfield 59, 3) := by decide +kernel
theorem dc_S_forgetAll_8 : decode cb_S_forgetAll 8 = .ok (.aload_n 0, 1) := by decide +kernel
theorem dc_S_forgetAll_9 : decode cb_S_forgetAll 9 = .ok (.getfield 27, 3) := by decide +kernel
theorem dc_S_forgetAll_12 : decode cb_S_forgetAll 12 = .ok (.iconst 0, 1) := by decide +kernel
theorem dc_S_forgetAll_13 : decode cb_S_forgetAll 13 = .ok (.putfield 59, 3) := by decide +kernel
theorem dc_S_forgetAll_16 : decode cb_S_forgetAll 16 = .ok (.aload_n 0, 1) := by decide +kernel
theorem dc_S_forgetAll_17 : decode cb_S_forgetAll 17 = .ok (.bipush 24, 2) := by decide +kernel
theorem dc_S_forgetAll_19 : decode cb_S_forgetAll 19 = .ok (.putfield 41, 3) := by decide +kernel
theorem dc_S_forgetAll_22 : decode cb_S_forgetAll 22 = .ok (.aload_n 0, 1) := by decide +kernel
theorem dc_S_forgetAll_23 : decode cb_S_forgetAll 23 = .ok (.invokevirtual 62, 3) := by decide +kernel
theorem dc_S_forgetAll_26 : decode cb_S_forgetAll 26 = .ok (.return_, 1) := by decide +kernel
theorem dc_S_beginAnew_0 : decode cb_S_beginAnew 0 = .ok (.aload_n 0, 1) := by decide +kernel
theorem dc_S_beginAnew_1 : decode cb_S_beginAnew 1 = .ok (.invokevirtual 47, 3) := by decide +kernel
theorem dc_S_beginAnew_4 : decode cb_S_beginAnew 4 = .ok (.aload_n 0, 1) := by decide +kernel
theorem dc_S_beginAnew_5 : decode cb_S_beginAnew 5 = .ok (.iconst 1, 1) := by decide +kernel
theorem dc_S_beginAnew_6 : decode cb_S_beginAnew 6 = .ok (.putfield 37, 3) := by decide +kernel
theorem dc_S_beginAnew_9 : decode cb_S_beginAnew 9 = .ok (.aload_n 0, 1) := by decide +kernel
theorem dc_S_beginAnew_10 : decode cb_S_beginAnew 10 = .ok (.iconst 0, 1) := by decide +kernel
theorem dc_S_beginAnew_11 : decode cb_S_beginAnew 11 = .ok (.putfield 50, 3) := by decide +kernel
theorem dc_S_beginAnew_14 : decode cb_S_beginAnew 14 = .ok (.aload_n 0, 1) := by decide +kernel
theorem dc_S_beginAnew_15 : decode cb_S_beginAnew 15 = .ok (.iconst 0, 1) := by decide +kernel
theorem dc_S_beginAnew_16 : decode cb_S_beginAnew 16 = .ok (.putfield 53, 3) := by decide +kernel
theorem dc_S_beginAnew_19 : decode cb_S_beginAnew 19 = .ok (.aload_n 0, 1) := by decide +kernel
theorem dc_S_beginAnew_20 : decode cb_S_beginAnew 20 = .ok (.dup, 1) := by decide +kernel
theorem dc_S_beginAnew_21 : decode cb_S_beginAnew 21 = .ok (.getfield 56, 3) := by decide +kernel
theorem dc_S_beginAnew_24 : decode cb_S_beginAnew 24 = .ok (.iconst 1, 1) := by decide +kernel
theorem dc_S_beginAnew_25 : decode cb_S_beginAnew 25 = .ok (.iadd, 1) := by decide +kernel
theorem dc_S_beginAnew_26 : decode cb_S_beginAnew 26 = .ok (.putfield 56, 3) := by decide +kernel
theorem dc_S_beginAnew_29 : decode cb_S_beginAnew 29 = .ok (.return_, 1) := by decide +kernel
theorem dc_P_append_0 : decode cb_P_append 0 = .ok (.aload_n 0, 1) := by decide +kernel
theorem dc_P_append_1 : decode cb_P_append 1 = .ok (.getfield 21, 3) := by decide +kernel
theorem dc_P_append_4 : decode cb_P_append 4 = .ok (.bipush 24, 2) := by decide +kernel
theorem dc_P_append_6 : decode cb_P_append 6 = .ok (.if_icmp .ge 43, 3) := by decide +kernel
theorem dc_P_append_9 : decode cb_P_append 9 = .ok (.aload_n 0, 1) := by decide +kernel
theorem dc_P_append_10 : decode cb_P_append 10 = .ok (.getfield 9, 3) := by decide +kernel
theorem dc_P_append_13 : decode cb_P_append 13 = .ok (.aload_n 0, 1) := by decide +kernel
theorem dc_P_append_14 : decode cb_P_append 14 = .ok (.getfield 21, 3) := by decide +kernel
theorem dc_P_append_17 : decode cb_P_append 17 = .ok (.iload_n 1, 1) := by decide +kernel
theorem dc_P_append_18 : decode cb_P_append 18 = .ok (.iastore, 1) := by decide +kernel
theorem dc_P_append_19 : decode cb_P_append 19 = .ok (.aload_n 0, 1) := by decide +kernel
theorem dc_P_append_20 : decode cb_P_append 20 = .ok (.getfield 15, 3) := by decide +kernel
theorem dc_P_append_23 : decode cb_P_append 23 = .ok (.aload_n 0, 1) := by decide +kernel
theorem dc_P_append_24 : decode cb_P_append 24 = .ok (.getfield 21, 3) := by decide +kernel
theorem dc_P_append_27 : decode cb_P_append 27 = .ok (.iload_n 2, 1) := by decide +kernel
theorem dc_P_append_28 : decode cb_P_append 28 = .ok (.iastore, 1) := by decide +kernel
theorem dc_P_append_29 : decode cb_P_append 29 = .ok (.aload_n 0, 1) := by decide +kernel
theorem dc_P_append_30 : decode cb_P_append 30 = .ok (.getfield 18, 3) := by decide +kernel
theorem dc_P_append_33 : decode cb_P_append 33 = .ok (.aload_n 0, 1) := by decide +kernel
theorem dc_P_append_34 : decode cb_P_append 34 = .ok (.getfield 21, 3) := by decide +kernel
theorem dc_P_append_37 : decode cb_P_append 37 = .ok (.iload_n 3, 1) := by decide +kernel
theorem dc_P_append_38 : decode cb_P_append 38 = .ok (.iastore, 1) := by decide +kernel
theorem dc_P_append_39 : decode cb_P_append 39 = .ok (.aload_n 0, 1) := by decide +kernel
theorem dc_P_append_40 : decode cb_P_append 40 = .ok (.dup, 1) := by decide +kernel
theorem dc_P_append_41 : decode cb_P_append 41 = .ok (.getfield 21, 3) := by decide +kernel
theorem dc_P_append_44 : decode cb_P_append 44 = .ok (.iconst 1, 1) := by decide +kernel
theorem dc_P_append_45 : decode cb_P_append 45 = .ok (.iadd, 1) := by decide +kernel
theorem dc_P_append_46 : decode cb_P_append 46 = .ok (.putfield 21, 3) := by decide +kernel
theorem dc_P_append_49 : decode cb_P_append 49 = .ok (.return_, 1) := by decide +kernel
theorem dc_Q_isFull_0 : decode cb_Q_isFull 0 = .ok (.aload_n 0, 1) := by decide +kernel
theorem dc_Q_isFull_1 : decode cb_Q_isFull 1 = .ok (.getfield 18, 3) := by decide +kernel
theorem dc_Q_isFull_4 : decode cb_Q_isFull 4 = .ok (.aload_n 0, 1) := by decide +kernel
theorem dc_Q_isFull_5 : decode cb_Q_isFull 5 = .ok (.getfield 9, 3) := by decide +kernel
theorem dc_Q_isFull_8 : decode cb_Q_isFull 8 = .ok (.arraylength, 1) := by decide +kernel
theorem dc_Q_isFull_9 : decode cb_Q_isFull 9 = .ok (.if_icmp .lt 7, 3) := by decide +kernel
theorem dc_Q_isFull_12 : decode cb_Q_isFull 12 = .ok (.iconst 1, 1) := by decide +kernel
theorem dc_Q_isFull_13 : decode cb_Q_isFull 13 = .ok (.goto 4, 3) := by decide +kernel
theorem dc_Q_isFull_16 : decode cb_Q_isFull 16 = .ok (.iconst 0, 1) := by decide +kernel
theorem dc_Q_isFull_17 : decode cb_Q_isFull 17 = .ok (.ireturn, 1) := by decide +kernel
theorem dc_Q_latest_0 : decode cb_Q_latest 0 = .ok (.aload_n 0, 1) := by decide +kernel
theorem dc_Q_latest_1 : decode cb_Q_latest 1 = .ok (.getfield 18, 3) := by decide +kernel
theorem dc_Q_latest_4 : decode cb_Q_latest 4 = .ok (.iconst 1, 1) := by decide +kernel
theorem dc_Q_latest_5 : decode cb_Q_latest 5 = .ok (.isub, 1) := by decide +kernel
theorem dc_Q_latest_6 : decode cb_Q_latest 6 = .ok (.istore_n 2, 1) := by decide +kernel
theorem dc_Q_latest_7 : decode cb_Q_latest 7 = .ok (.iload_n 2, 1) := by decide +kernel
theorem dc_Q_latest_8 : decode cb_Q_latest 8 = .ok (.ifCond .lt 21, 3) := by decide +kernel
theorem dc_Q_latest_11 : decode cb_Q_latest 11 = .ok (.aload_n 0, 1) := by decide +kernel
theorem dc_Q_latest_12 : decode cb_Q_latest 12 = .ok (.getfield 9, 3) := by decide +kernel
theorem dc_Q_latest_15 : decode cb_Q_latest 15 = .ok (.iload_n 2, 1) := by decide +kernel
theorem dc_Q_latest_16 : decode cb_Q_latest 16 = .ok (.iaload, 1) := by decide +kernel
theorem dc_Q_latest_17 : decode cb_Q_latest 17 = .ok (.iload_n 1, 1) := by decide +kernel
theorem dc_Q_latest_18 : decode cb_Q_latest 18 = .ok (.if_icmp .ne 5, 3) := by decide +kernel
theorem dc_Q_latest_21 : decode cb_Q_latest 21 = .ok (.iload_n 2, 1) := by decide +kernel
theorem dc_Q_latest_22 : decode cb_Q_latest 22 = .ok (.ireturn, 1) := by decide +kernel
theorem dc_Q_latest_23 : decode cb_Q_latest 23 = .ok (.iinc 2 (-1), 3) := by decide +kernel
theorem dc_Q_latest_26 : decode cb_Q_latest 26 = .ok (.goto (-19), 3) := by decide +kernel
theorem dc_Q_latest_29 : decode cb_Q_latest 29 = .ok (.iconst (-1), 1) := by decide +kernel
theorem dc_Q_latest_30 : decode cb_Q_latest 30 = .ok (.ireturn, 1) := by decide +kernel
theorem dc_Q_append_0 : decode cb_Q_append 0 = .ok (.aload_n 0, 1) := by decide +kernel
theorem dc_Q_append_1 : decode cb_Q_append 1 = .ok (.invokevirtual 22, 3) := by decide +kernel
theorem dc_Q_append_4 : decode cb_Q_append 4 = .ok (.ifCond .ne 33, 3) := by decide +kernel
theorem dc_Q_append_7 : decode cb_Q_append 7 = .ok (.aload_n 0, 1) := by decide +kernel
theorem dc_Q_append_8 : decode cb_Q_append 8 = .ok (.getfield 9, 3) := by decide +kernel
theorem dc_Q_append_11 : decode cb_Q_append 11 = .ok (.aload_n 0, 1) := by decide +kernel
theorem dc_Q_append_12 : decode cb_Q_append 12 = .ok (.getfield 18, 3) := by decide +kernel
theorem dc_Q_append_15 : decode cb_Q_append 15 = .ok (.iload_n 1, 1) := by decide +kernel
theorem dc_Q_append_16 : decode cb_Q_append 16 = .ok (.iastore, 1) := by decide +kernel
theorem dc_Q_append_17 : decode cb_Q_append 17 = .ok (.aload_n 0, 1) := by decide +kernel
theorem dc_Q_append_18 : decode cb_Q_append 18 = .ok (.getfield 15, 3) := by decide +kernel
theorem dc_Q_append_21 : decode cb_Q_append 21 = .ok (.aload_n 0, 1) := by decide +kernel
theorem dc_Q_append_22 : decode cb_Q_append 22 = .ok (.getfield 18, 3) := by decide +kernel
theorem dc_Q_append_25 : decode cb_Q_append 25 = .ok (.iload_n 2, 1) := by decide +kernel
theorem dc_Q_append_26 : decode cb_Q_append 26 = .ok (.iastore, 1) := by decide +kernel
theorem dc_Q_append_27 : decode cb_Q_append 27 = .ok (.aload_n 0, 1) := by decide +kernel
theorem dc_Q_append_28 : decode cb_Q_append 28 = .ok (.dup, 1) := by decide +kernel
theorem dc_Q_append_29 : decode cb_Q_append 29 = .ok (.getfield 18, 3) := by decide +kernel
theorem dc_Q_append_32 : decode cb_Q_append 32 = .ok (.iconst 1, 1) := by decide +kernel
theorem dc_Q_append_33 : decode cb_Q_append 33 = .ok (.iadd, 1) := by decide +kernel
theorem dc_Q_append_34 : decode cb_Q_append 34 = .ok (.putfield 18, 3) := by decide +kernel
theorem dc_Q_append_37 : decode cb_Q_append 37 = .ok (.return_, 1) := by decide +kernel
theorem dc_Q_takeOut_0 : decode cb_Q_takeOut 0 = .ok (.iload_n 1, 1) := by decide +kernel
theorem dc_Q_takeOut_1 : decode cb_Q_takeOut 1 = .ok (.iconst 1, 1) := by decide +kernel
theorem dc_Q_takeOut_2 : decode cb_Q_takeOut 2 = .ok (.iadd, 1) := by decide +kernel
theorem dc_Q_takeOut_3 : decode cb_Q_takeOut 3 = .ok (.istore_n 2, 1) := by decide +kernel
theorem dc_Q_takeOut_4 : decode cb_Q_takeOut 4 = .ok (.iload_n 2, 1) := by decide +kernel
theorem dc_Q_takeOut_5 : decode cb_Q_takeOut 5 = .ok (.aload_n 0, 1) := by decide +kernel
theorem dc_Q_takeOut_6 : decode cb_Q_takeOut 6 = .ok (.getfield 18, 3) := by decide +kernel
theorem dc_Q_takeOut_9 : decode cb_Q_takeOut 9 = .ok (.if_icmp .ge 37, 3) := by decide +kernel
theorem dc_Q_takeOut_12 : decode cb_Q_takeOut 12 = .ok (.aload_n 0, 1) := by decide +kernel
theorem dc_Q_takeOut_13 : decode cb_Q_takeOut 13 = .ok (.getfield 9, 3) := by decide +kernel
theorem dc_Q_takeOut_16 : decode cb_Q_takeOut 16 = .ok (.iload_n 2, 1) := by decide +kernel
theorem dc_Q_takeOut_17 : decode cb_Q_takeOut 17 = .ok (.iconst 1, 1) := by decide +kernel
theorem dc_Q_takeOut_18 : decode cb_Q_takeOut 18 = .ok (.isub, 1) := by decide +kernel
theorem dc_Q_takeOut_19 : decode cb_Q_takeOut 19 = .ok (.aload_n 0, 1) := by decide +kernel
theorem dc_Q_takeOut_20 : decode cb_Q_takeOut 20 = .ok (.getfield 9, 3) := by decide +kernel
theorem dc_Q_takeOut_23 : decode cb_Q_takeOut 23 = .ok (.iload_n 2, 1) := by decide +kernel
theorem dc_Q_takeOut_24 : decode cb_Q_takeOut 24 = .ok (.iaload, 1) := by decide +kernel
theorem dc_Q_takeOut_25 : decode cb_Q_takeOut 25 = .ok (.iastore, 1) := by decide +kernel
theorem dc_Q_takeOut_26 : decode cb_Q_takeOut 26 = .ok (.aload_n 0, 1) := by decide +kernel
theorem dc_Q_takeOut_27 : decode cb_Q_takeOut 27 = .ok (.getfield 15, 3) := by decide +kernel
theorem dc_Q_takeOut_30 : decode cb_Q_takeOut 30 = .ok (.iload_n 2, 1) := by decide +kernel
theorem dc_Q_takeOut_31 : decode cb_Q_takeOut 31 = .ok (.iconst 1, 1) := by decide +kernel
theorem dc_Q_takeOut_32 : decode cb_Q_takeOut 32 = .ok (.isub, 1) := by decide +kernel
theorem dc_Q_takeOut_33 : decode cb_Q_takeOut 33 = .ok (.aload_n 0, 1) := by decide +kernel
theorem dc_Q_takeOut_34 : decode cb_Q_takeOut 34 = .ok (.getfield 15, 3) := by decide +kernel
theorem dc_Q_takeOut_37 : decode cb_Q_takeOut 37 = .ok (.iload_n 2, 1) := by decide +kernel
theorem dc_Q_takeOut_38 : decode cb_Q_takeOut 38 = .ok (.iaload, 1) := by decide +kernel
theorem dc_Q_takeOut_39 : decode cb_Q_takeOut 39 = .ok (.iastore, 1) := by decide +kernel
theorem dc_Q_takeOut_40 : decode cb_Q_takeOut 40 = .ok (.iinc 2 1, 3) := by decide +kernel
theorem dc_Q_takeOut_43 : decode cb_Q_takeOut 43 = .ok (.goto (-39), 3) := by decide +kernel
theorem dc_Q_takeOut_46 : decode cb_Q_takeOut 46 = .ok (.aload_n 0, 1) := by decide +kernel
theorem dc_Q_takeOut_47 : decode cb_Q_takeOut 47 = .ok (.dup, 1) := by decide +kernel
theorem dc_Q_takeOut_48 : decode cb_Q_takeOut 48 = .ok (.getfield 18, 3) := by decide +kernel
theorem dc_Q_takeOut_51 : decode cb_Q_takeOut 51 = .ok (.iconst 1, 1) := by decide +kernel
theorem dc_Q_takeOut_52 : decode cb_Q_takeOut 52 = .ok (.isub, 1) := by decide +kernel
theorem dc_Q_takeOut_53 : decode cb_Q_takeOut 53 = .ok (.putfield 18, 3) := by decide +kernel
theorem dc_Q_takeOut_56 : decode cb_Q_takeOut 56 = .ok (.return_, 1) := by decide +kernel
theorem dc_R_append_0 : decode cb_R_append 0 = .ok (.aload_n 0, 1) := by decide +kernel
theorem dc_R_append_1 : decode cb_R_append 1 = .ok (.getfield 15, 3) := by decide +kernel
theorem dc_R_append_4 : decode cb_R_append 4 = .ok (.iconst 5, 1) := by decide +kernel
theorem dc_R_append_5 : decode cb_R_append 5 = .ok (.if_icmp .ge 23, 3) := by decide +kernel
theorem dc_R_append_8 : decode cb_R_append 8 = .ok (.aload_n 0, 1) := by decide +kernel
theorem dc_R_append_9 : decode cb_R_append 9 = .ok (.getfield 9, 3) := by decide +kernel
theorem dc_R_append_12 : decode cb_R_append 12 = .ok (.aload_n 0, 1) := by decide +kernel
theorem dc_R_append_13 : decode cb_R_append 13 = .ok (.getfield 15, 3) := by decide +kernel
theorem dc_R_append_16 : decode cb_R_append 16 = .ok (.iload_n 1, 1) := by decide +kernel
theorem dc_R_append_17 : decode cb_R_append 17 = .ok (.iastore, 1) := by decide +kernel
theorem dc_R_append_18 : decode cb_R_append 18 = .ok (.aload_n 0, 1) := by decide +kernel
theorem dc_R_append_19 : decode cb_R_append 19 = .ok (.dup, 1) := by decide +kernel
theorem dc_R_append_20 : decode cb_R_append 20 = .ok (.getfield 15, 3) := by decide +kernel
theorem dc_R_append_23 : decode cb_R_append 23 = .ok (.iconst 1, 1) := by decide +kernel
theorem dc_R_append_24 : decode cb_R_append 24 = .ok (.iadd, 1) := by decide +kernel
theorem dc_R_append_25 : decode cb_R_append 25 = .ok (.putfield 15, 3) := by decide +kernel
theorem dc_R_append_28 : decode cb_R_append 28 = .ok (.return_, 1) := by decide +kernel
theorem dc_R_takeOut_0 : decode cb_R_takeOut 0 = .ok (.iconst 0, 1) := by decide +kernel
theorem dc_R_takeOut_1 : decode cb_R_takeOut 1 = .ok (.istore_n 2, 1) := by decide +kernel
theorem dc_R_takeOut_2 : decode cb_R_takeOut 2 = .ok (.iconst 0, 1) := by decide +kernel
theorem dc_R_takeOut_3 : decode cb_R_takeOut 3 = .ok (.istore_n 3, 1) := by decide +kernel
theorem dc_R_takeOut_4 : decode cb_R_takeOut 4 = .ok (.iload_n 3, 1) := by decide +kernel
theorem dc_R_takeOut_5 : decode cb_R_takeOut 5 = .ok (.aload_n 0, 1) := by decide +kernel
theorem dc_R_takeOut_6 : decode cb_R_takeOut 6 = .ok (.getfield 15, 3) := by decide +kernel
theorem dc_R_takeOut_9 : decode cb_R_takeOut 9 = .ok (.if_icmp .ge 34, 3) := by decide +kernel
theorem dc_R_takeOut_12 : decode cb_R_takeOut 12 = .ok (.aload_n 0, 1) := by decide +kernel
theorem dc_R_takeOut_13 : decode cb_R_takeOut 13 = .ok (.getfield 9, 3) := by decide +kernel
theorem dc_R_takeOut_16 : decode cb_R_takeOut 16 = .ok (.iload_n 3, 1) := by decide +kernel
theorem dc_R_takeOut_17 : decode cb_R_takeOut 17 = .ok (.iaload, 1) := by decide +kernel
theorem dc_R_takeOut_18 : decode cb_R_takeOut 18 = .ok (.iload_n 1, 1) := by decide +kernel
theorem dc_R_takeOut_19 : decode cb_R_takeOut 19 = .ok (.if_icmp .eq 18, 3) := by decide +kernel
theorem dc_R_takeOut_22 : decode cb_R_takeOut 22 = .ok (.aload_n 0, 1) := by decide +kernel
theorem dc_R_takeOut_23 : decode cb_R_takeOut 23 = .ok (.getfield 9, 3) := by decide +kernel
theorem dc_R_takeOut_26 : decode cb_R_takeOut 26 = .ok (.iload_n 2, 1) := by decide +kernel
theorem dc_R_takeOut_27 : decode cb_R_takeOut 27 = .ok (.aload_n 0, 1) := by decide +kernel
theorem dc_R_takeOut_28 : decode cb_R_takeOut 28 = .ok (.getfield 9, 3) := by decide +kernel
theorem dc_R_takeOut_31 : decode cb_R_takeOut 31 = .ok (.iload_n 3, 1) := by decide +kernel
theorem dc_R_takeOut_32 : decode cb_R_takeOut 32 = .ok (.iaload, 1) := by decide +kernel
theorem dc_R_takeOut_33 : decode cb_R_takeOut 33 = .ok (.iastore, 1) := by decide +kernel
theorem dc_R_takeOut_34 : decode cb_R_takeOut 34 = .ok (.iinc 2 1, 3) := by decide +kernel
theorem dc_R_takeOut_37 : decode cb_R_takeOut 37 = .ok (.iinc 3 1, 3) := by decide +kernel
theorem dc_R_takeOut_40 : decode cb_R_takeOut 40 = .ok (.goto (-36), 3) := by decide +kernel
theorem dc_R_takeOut_43 : decode cb_R_takeOut 43 = .ok (.aload_n 0, 1) := by decide +kernel
theorem dc_R_takeOut_44 : decode cb_R_takeOut 44 = .ok (.iload_n 2, 1) := by decide +kernel
theorem dc_R_takeOut_45 : decode cb_R_takeOut 45 = .ok (.putfield 15, 3) := by decide +kernel
theorem dc_R_takeOut_48 : decode cb_R_takeOut 48 = .ok (.return_, 1) := by decide +kernel
theorem dc_R_takeFirst_0 : decode cb_R_takeFirst 0 = .ok (.aload_n 0, 1) := by decide +kernel
theorem dc_R_takeFirst_1 : decode cb_R_takeFirst 1 = .ok (.getfield 15, 3) := by decide +kernel
theorem dc_R_takeFirst_4 : decode cb_R_takeFirst 4 = .ok (.ifCond .ne 5, 3) := by decide +kernel
theorem dc_R_takeFirst_7 : decode cb_R_takeFirst 7 = .ok (.iconst (-1), 1) := by decide +kernel
theorem dc_R_takeFirst_8 : decode cb_R_takeFirst 8 = .ok (.ireturn, 1) := by decide +kernel
theorem dc_R_takeFirst_9 : decode cb_R_takeFirst 9 = .ok (.aload_n 0, 1) := by decide +kernel
theorem dc_R_takeFirst_10 : decode cb_R_takeFirst 10 = .ok (.getfield 9, 3) := by decide +kernel
theorem dc_R_takeFirst_13 : decode cb_R_takeFirst 13 = .ok (.iconst 0, 1) := by decide +kernel
theorem dc_R_takeFirst_14 : decode cb_R_takeFirst 14 = .ok (.iaload, 1) := by decide +kernel
theorem dc_R_takeFirst_15 : decode cb_R_takeFirst 15 = .ok (.istore_n 1, 1) := by decide +kernel
theorem dc_R_takeFirst_16 : decode cb_R_takeFirst 16 = .ok (.aload_n 0, 1) := by decide +kernel
theorem dc_R_takeFirst_17 : decode cb_R_takeFirst 17 = .ok (.iload_n 1, 1) := by decide +kernel
theorem dc_R_takeFirst_18 : decode cb_R_takeFirst 18 = .ok (.invokevirtual 19, 3) := by decide +kernel
theorem dc_R_takeFirst_21 : decode cb_R_takeFirst 21 = .ok (.iload_n 1, 1) := by decide +kernel
theorem dc_R_takeFirst_22 : decode cb_R_takeFirst 22 = .ok (.ireturn, 1) := by decide +kernel
theorem dc_M_isOpenTo_0 : decode cb_M_isOpenTo 0 = .ok (.aload_n 0, 1) := by decide +kernel
theorem dc_M_isOpenTo_1 : decode cb_M_isOpenTo 1 = .ok (.getfield 18, 3) := by decide +kernel
theorem dc_M_isOpenTo_4 : decode cb_M_isOpenTo 4 = .ok (.iconst (-1), 1) := by decide +kernel
theorem dc_M_isOpenTo_5 : decode cb_M_isOpenTo 5 = .ok (.if_icmp .eq 11, 3) := by decide +kernel
theorem dc_M_isOpenTo_8 : decode cb_M_isOpenTo 8 = .ok (.aload_n 0, 1) := by decide +kernel
theorem dc_M_isOpenTo_9 : decode cb_M_isOpenTo 9 = .ok (.getfield 18, 3) := by decide +kernel
theorem dc_M_isOpenTo_12 : decode cb_M_isOpenTo 12 = .ok (.iload_n 1, 1) := by decide +kernel
theorem dc_M_isOpenTo_13 : decode cb_M_isOpenTo 13 = .ok (.if_icmp .ne 7, 3) := by decide +kernel
theorem dc_M_isOpenTo_16 : decode cb_M_isOpenTo 16 = .ok (.iconst 1, 1) := by decide +kernel
theorem dc_M_isOpenTo_17 : decode cb_M_isOpenTo 17 = .ok (.goto 4, 3) := by decide +kernel
theorem dc_M_isOpenTo_20 : decode cb_M_isOpenTo 20 = .ok (.iconst 0, 1) := by decide +kernel
theorem dc_M_isOpenTo_21 : decode cb_M_isOpenTo 21 = .ok (.ireturn, 1) := by decide +kernel
theorem dc_M_give_0 : decode cb_M_give 0 = .ok (.aload_n 0, 1) := by decide +kernel
theorem dc_M_give_1 : decode cb_M_give 1 = .ok (.iload_n 1, 1) := by decide +kernel
theorem dc_M_give_2 : decode cb_M_give 2 = .ok (.putfield 18, 3) := by decide +kernel
theorem dc_M_give_5 : decode cb_M_give 5 = .ok (.aload_n 0, 1) := by decide +kernel
theorem dc_M_give_6 : decode cb_M_give 6 = .ok (.dup, 1) := by decide +kernel
theorem dc_M_give_7 : decode cb_M_give 7 = .ok (.getfield 22, 3) := by decide +kernel
theorem dc_M_give_10 : decode cb_M_give 10 = .ok (.iload_n 2, 1) := by decide +kernel
theorem dc_M_give_11 : decode cb_M_give 11 = .ok (.iadd, 1) := by decide +kernel
theorem dc_M_give_12 : decode cb_M_give 12 = .ok (.putfield 22, 3) := by decide +kernel
theorem dc_M_give_15 : decode cb_M_give 15 = .ok (.return_, 1) := by decide +kernel
theorem dc_H_requireBetween_0 : decode cb_H_requireBetween 0 = .ok (.iload_n 0, 1) := by decide +kernel
theorem dc_H_requireBetween_1 : decode cb_H_requireBetween 1 = .ok (.iload_n 1, 1) := by decide +kernel
theorem dc_H_requireBetween_2 : decode cb_H_requireBetween 2 = .ok (.if_icmp .lt 8, 3) := by decide +kernel
theorem dc_H_requireBetween_5 : decode cb_H_requireBetween 5 = .ok (.iload_n 0, 1) := by decide +kernel
theorem dc_H_requireBetween_6 : decode cb_H_requireBetween 6 = .ok (.iload_n 2, 1) := by decide +kernel
theorem dc_H_requireBetween_7 : decode cb_H_requireBetween 7 = .ok (.if_icmp .le 11, 3) := by decide +kernel
theorem dc_H_requireBetween_10 : decode cb_H_requireBetween 10 = .ok (.new 143, 3) := by decide +kernel
theorem dc_H_requireBetween_13 : decode cb_H_requireBetween 13 = .ok (.dup, 1) := by decide +kernel
theorem dc_H_requireBetween_14 : decode cb_H_requireBetween 14 = .ok (.invokespecial 145, 3) := by decide +kernel
theorem dc_H_requireBetween_17 : decode cb_H_requireBetween 17 = .ok (.athrow, 1) := by decide +kernel
theorem dc_H_requireBetween_18 : decode cb_H_requireBetween 18 = .ok (.return_, 1) := by decide +kernel
theorem dc_H_requireBelow_0 : decode cb_H_requireBelow 0 = .ok (.iload_n 0, 1) := by decide +kernel
theorem dc_H_requireBelow_1 : decode cb_H_requireBelow 1 = .ok (.iconst 0, 1) := by decide +kernel
theorem dc_H_requireBelow_2 : decode cb_H_requireBelow 2 = .ok (.iload_n 1, 1) := by decide +kernel
theorem dc_H_requireBelow_3 : decode cb_H_requireBelow 3 = .ok (.iconst 1, 1) := by decide +kernel
theorem dc_H_requireBelow_4 : decode cb_H_requireBelow 4 = .ok (.isub, 1) := by decide +kernel
theorem dc_H_requireBelow_5 : decode cb_H_requireBelow 5 = .ok (.invokestatic 86, 3) := by decide +kernel
theorem dc_H_requireBelow_8 : decode cb_H_requireBelow 8 = .ok (.return_, 1) := by decide +kernel
theorem dc_H_requireOperand_0 : decode cb_H_requireOperand 0 = .ok (.iload_n 1, 1) := by decide +kernel
theorem dc_H_requireOperand_1 : decode cb_H_requireOperand 1 = .ok (.ifCond .le 8, 3) := by decide +kernel
theorem dc_H_requireOperand_4 : decode cb_H_requireOperand 4 = .ok (.iload_n 0, 1) := by decide +kernel
theorem dc_H_requireOperand_5 : decode cb_H_requireOperand 5 = .ok (.iload_n 1, 1) := by decide +kernel
theorem dc_H_requireOperand_6 : decode cb_H_requireOperand 6 = .ok (.invokestatic 46, 3) := by decide +kernel
theorem dc_H_requireOperand_9 : decode cb_H_requireOperand 9 = .ok (.return_, 1) := by decide +kernel
theorem dc_H_requireNotAlive_0 : decode cb_H_requireNotAlive 0 = .ok (.aload_n 0, 1) := by decide +kernel
theorem dc_H_requireNotAlive_1 : decode cb_H_requireNotAlive 1 = .ok (.invokevirtual 79, 3) := by decide +kernel
theorem dc_H_requireNotAlive_4 : decode cb_H_requireNotAlive 4 = .ok (.ifCond .eq 11, 3) := by decide +kernel
theorem dc_H_requireNotAlive_7 : decode cb_H_requireNotAlive 7 = .ok (.new 173, 3) := by decide +kernel
theorem dc_H_requireNotAlive_10 : decode cb_H_requireNotAlive 10 = .ok (.dup, 1) := by decide +kernel
theorem dc_H_requireNotAlive_11 : decode cb_H_requireNotAlive 11 = .ok (.invokespecial 175, 3) := by decide +kernel
theorem dc_H_requireNotAlive_14 : decode cb_H_requireNotAlive 14 = .ok (.athrow, 1) := by decide +kernel
theorem dc_H_requireNotAlive_15 : decode cb_H_requireNotAlive 15 = .ok (.return_, 1) := by decide +kernel
theorem dc_H_aliveCount_0 : decode cb_H_aliveCount 0 = .ok (.iconst 0, 1) := by decide +kernel
theorem dc_H_aliveCount_1 : decode cb_H_aliveCount 1 = .ok (.istore_n 1, 1) := by decide +kernel
theorem dc_H_aliveCount_2 : decode cb_H_aliveCount 2 = .ok (.iconst 0, 1) := by decide +kernel
theorem dc_H_aliveCount_3 : decode cb_H_aliveCount 3 = .ok (.istore_n 2, 1) := by decide +kernel
theorem dc_H_aliveCount_4 : decode cb_H_aliveCount 4 = .ok (.iload_n 2, 1) := by decide +kernel
theorem dc_H_aliveCount_5 : decode cb_H_aliveCount 5 = .ok (.iconst 5, 1) := by decide +kernel
theorem dc_H_aliveCount_6 : decode cb_H_aliveCount 6 = .ok (.if_icmp .ge 24, 3) := by decide +kernel
theorem dc_H_aliveCount_9 : decode cb_H_aliveCount 9 = .ok (.aload_n 0, 1) := by decide +kernel
theorem dc_H_aliveCount_10 : decode cb_H_aliveCount 10 = .ok (.getfield 11, 3) := by decide +kernel
theorem dc_H_aliveCount_13 : decode cb_H_aliveCount 13 = .ok (.iload_n 2, 1) := by decide +kernel
theorem dc_H_aliveCount_14 : decode cb_H_aliveCount 14 = .ok (.aaload, 1) := by decide +kernel
theorem dc_H_aliveCount_15 : decode cb_H_aliveCount 15 = .ok (.invokevirtual 79, 3) := by decide +kernel
theorem dc_H_aliveCount_18 : decode cb_H_aliveCount 18 = .ok (.ifCond .eq 6, 3) := by decide +kernel
theorem dc_H_aliveCount_21 : decode cb_H_aliveCount 21 = .ok (.iinc 1 1, 3) := by decide +kernel
theorem dc_H_aliveCount_24 : decode cb_H_aliveCount 24 = .ok (.iinc 2 1, 3) := by decide +kernel
theorem dc_H_aliveCount_27 : decode cb_H_aliveCount 27 = .ok (.goto (-23), 3) := by decide +kernel
theorem dc_H_aliveCount_30 : decode cb_H_aliveCount 30 = .ok (.iload_n 1, 1) := by decide +kernel
theorem dc_H_aliveCount_31 : decode cb_H_aliveCount 31 = .ok (.ireturn, 1) := by decide +kernel
theorem dc_H_readyCount_0 : decode cb_H_readyCount 0 = .ok (.iconst 0, 1) := by decide +kernel
theorem dc_H_readyCount_1 : decode cb_H_readyCount 1 = .ok (.istore_n 1, 1) := by decide +kernel
theorem dc_H_readyCount_2 : decode cb_H_readyCount 2 = .ok (.iconst 0, 1) := by decide +kernel
theorem dc_H_readyCount_3 : decode cb_H_readyCount 3 = .ok (.istore_n 2, 1) := by decide +kernel
theorem dc_H_readyCount_4 : decode cb_H_readyCount 4 = .ok (.iload_n 2, 1) := by decide +kernel
theorem dc_H_readyCount_5 : decode cb_H_readyCount 5 = .ok (.iconst 5, 1) := by decide +kernel
theorem dc_H_readyCount_6 : decode cb_H_readyCount 6 = .ok (.if_icmp .ge 25, 3) := by decide +kernel
theorem dc_H_readyCount_9 : decode cb_H_readyCount 9 = .ok (.aload_n 0, 1) := by decide +kernel
theorem dc_H_readyCount_10 : decode cb_H_readyCount 10 = .ok (.getfield 11, 3) := by decide +kernel
theorem dc_H_readyCount_13 : decode cb_H_readyCount 13 = .ok (.iload_n 2, 1) := by decide +kernel
theorem dc_H_readyCount_14 : decode cb_H_readyCount 14 = .ok (.aaload, 1) := by decide +kernel
theorem dc_H_readyCount_15 : decode cb_H_readyCount 15 = .ok (.getfield 106, 3) := by decide +kernel
theorem dc_H_readyCount_18 : decode cb_H_readyCount 18 = .ok (.iconst 1, 1) := by decide +kernel
theorem dc_H_readyCount_19 : decode cb_H_readyCount 19 = .ok (.if_icmp .ne 6, 3) := by decide +kernel
theorem dc_H_readyCount_22 : decode cb_H_readyCount 22 = .ok (.iinc 1 1, 3) := by decide +kernel
theorem dc_H_readyCount_25 : decode cb_H_readyCount 25 = .ok (.iinc 2 1, 3) := by decide +kernel
theorem dc_H_readyCount_28 : decode cb_H_readyCount 28 = .ok (.goto (-24), 3) := by decide +kernel
theorem dc_H_readyCount_31 : decode cb_H_readyCount 31 = .ok (.iload_n 1, 1) := by decide +kernel
theorem dc_H_readyCount_32 : decode cb_H_readyCount 32 = .ok (.ireturn, 1) := by decide +kernel
theorem dc_H_nextReady_0 : decode cb_H_nextReady 0 = .ok (.iconst 1, 1) := by decide +kernel
theorem dc_H_nextReady_1 : decode cb_H_nextReady 1 = .ok (.istore_n 1, 1) := by decide +kernel
theorem dc_H_nextReady_2 : decode cb_H_nextReady 2 = .ok (.iload_n 1, 1) := by decide +kernel
theorem dc_H_nextReady_3 : decode cb_H_nextReady 3 = .ok (.iconst 5, 1) := by decide +kernel
theorem dc_H_nextReady_4 : decode cb_H_nextReady 4 = .ok (.if_icmp .gt 33, 3) := by decide +kernel
theorem dc_H_nextReady_7 : decode cb_H_nextReady 7 = .ok (.aload_n 0, 1) := by decide +kernel
theorem dc_H_nextReady_8 : decode cb_H_nextReady 8 = .ok (.getfield 43, 3) := by decide +kernel
theorem dc_H_nextReady_11 : decode cb_H_nextReady 11 = .ok (.iload_n 1, 1) := by decide +kernel
theorem dc_H_nextReady_12 : decode cb_H_nextReady 12 = .ok (.iadd, 1) := by decide +kernel
theorem dc_H_nextReady_13 : decode cb_H_nextReady 13 = .ok (.iconst 5, 1) := by decide +kernel
theorem dc_H_nextReady_14 : decode cb_H_nextReady 14 = .ok (.irem, 1) := by decide +kernel
theorem dc_H_nextReady_15 : decode cb_H_nextReady 15 = .ok (.istore_n 2, 1) := by decide +kernel
theorem dc_H_nextReady_16 : decode cb_H_nextReady 16 = .ok (.aload_n 0, 1) := by decide +kernel
theorem dc_H_nextReady_17 : decode cb_H_nextReady 17 = .ok (.getfield 11, 3) := by decide +kernel
theorem dc_H_nextReady_20 : decode cb_H_nextReady 20 = .ok (.iload_n 2, 1) := by decide +kernel
theorem dc_H_nextReady_21 : decode cb_H_nextReady 21 = .ok (.aaload, 1) := by decide +kernel
theorem dc_H_nextReady_22 : decode cb_H_nextReady 22 = .ok (.getfield 106, 3) := by decide +kernel
theorem dc_H_nextReady_25 : decode cb_H_nextReady 25 = .ok (.iconst 1, 1) := by decide +kernel
theorem dc_H_nextReady_26 : decode cb_H_nextReady 26 = .ok (.if_icmp .ne 5, 3) := by decide +kernel
theorem dc_H_nextReady_29 : decode cb_H_nextReady 29 = .ok (.iload_n 2, 1) := by decide +kernel
theorem dc_H_nextReady_30 : decode cb_H_nextReady 30 = .ok (.ireturn, 1) := by decide +kernel
theorem dc_H_nextReady_31 : decode cb_H_nextReady 31 = .ok (.iinc 1 1, 3) := by decide +kernel
theorem dc_H_nextReady_34 : decode cb_H_nextReady 34 = .ok (.goto (-32), 3) := by decide +kernel
theorem dc_H_nextReady_37 : decode cb_H_nextReady 37 = .ok (.iconst (-1), 1) := by decide +kernel
theorem dc_H_nextReady_38 : decode cb_H_nextReady 38 = .ok (.ireturn, 1) := by decide +kernel
theorem dc_H_countInstruction_0 : decode cb_H_countInstruction 0 = .ok (.aload_n 1, 1) := by decide +kernel
theorem dc_H_countInstruction_1 : decode cb_H_countInstruction 1 = .ok (.dup, 1) := by decide +kernel
theorem dc_H_countInstruction_2 : decode cb_H_countInstruction 2 = .ok (.getfield 109, 3) := by decide +kernel
theorem dc_H_countInstruction_5 : decode cb_H_countInstruction 5 = .ok (.iconst 1, 1) := by decide +kernel
theorem dc_H_countInstruction_6 : decode cb_H_countInstruction 6 = .ok (.iadd, 1) := by decide +kernel
theorem dc_H_countInstruction_7 : decode cb_H_countInstruction 7 = .ok (.putfield 109, 3) := by decide +kernel
theorem dc_H_countInstruction_10 : decode cb_H_countInstruction 10 = .ok (.aload_n 1, 1) := by decide +kernel
theorem dc_H_countInstruction_11 : decode cb_H_countInstruction 11 = .ok (.dup, 1) := by decide +kernel
theorem dc_H_countInstruction_12 : decode cb_H_countInstruction 12 = .ok (.getfield 132, 3) := by decide +kernel
theorem dc_H_countInstruction_15 : decode cb_H_countInstruction 15 = .ok (.iconst 1, 1) := by decide +kernel
theorem dc_H_countInstruction_16 : decode cb_H_countInstruction 16 = .ok (.iadd, 1) := by decide +kernel
theorem dc_H_countInstruction_17 : decode cb_H_countInstruction 17 = .ok (.putfield 132, 3) := by decide +kernel
theorem dc_H_countInstruction_20 : decode cb_H_countInstruction 20 = .ok (.aload_n 0, 1) := by decide +kernel
theorem dc_H_countInstruction_21 : decode cb_H_countInstruction 21 = .ok (.dup, 1) := by decide +kernel
theorem dc_H_countInstruction_22 : decode cb_H_countInstruction 22 = .ok (.getfield 89, 3) := by decide +kernel
theorem dc_H_countInstruction_25 : decode cb_H_countInstruction 25 = .ok (.iconst 1, 1) := by decide +kernel
theorem dc_H_countInstruction_26 : decode cb_H_countInstruction 26 = .ok (.iadd, 1) := by decide +kernel
theorem dc_H_countInstruction_27 : decode cb_H_countInstruction 27 = .ok (.putfield 89, 3) := by decide +kernel
theorem dc_H_countInstruction_30 : decode cb_H_countInstruction 30 = .ok (.return_, 1) := by decide +kernel
theorem dc_H_read_0 : decode cb_H_read 0 = .ok (.aload_n 1, 1) := by decide +kernel
theorem dc_H_read_1 : decode cb_H_read 1 = .ok (.getfield 115, 3) := by decide +kernel
theorem dc_H_read_4 : decode cb_H_read 4 = .ok (.iload_n 2, 1) := by decide +kernel
theorem dc_H_read_5 : decode cb_H_read 5 = .ok (.invokevirtual 251, 3) := by decide +kernel
theorem dc_H_read_8 : decode cb_H_read 8 = .ok (.istore_n 3, 1) := by decide +kernel
theorem dc_H_read_9 : decode cb_H_read 9 = .ok (.iload_n 3, 1) := by decide +kernel
theorem dc_H_read_10 : decode cb_H_read 10 = .ok (.iconst (-1), 1) := by decide +kernel
theorem dc_H_read_11 : decode cb_H_read 11 = .ok (.if_icmp .ne 12, 3) := by decide +kernel
theorem dc_H_read_14 : decode cb_H_read 14 = .ok (.aload_n 0, 1) := by decide +kernel
theorem dc_H_read_15 : decode cb_H_read 15 = .ok (.getfield 32, 3) := by decide +kernel
theorem dc_H_read_18 : decode cb_H_read 18 = .ok (.iload_n 2, 1) := by decide +kernel
theorem dc_H_read_19 : decode cb_H_read 19 = .ok (.iaload, 1) := by decide +kernel
theorem dc_H_read_20 : decode cb_H_read 20 = .ok (.goto 12, 3) := by decide +kernel
theorem dc_H_read_23 : decode cb_H_read 23 = .ok (.aload_n 1, 1) := by decide +kernel
theorem dc_H_read_24 : decode cb_H_read 24 = .ok (.getfield 115, 3) := by decide +kernel
theorem dc_H_read_27 : decode cb_H_read 27 = .ok (.getfield 255, 3) := by decide +kernel
theorem dc_H_read_30 : decode cb_H_read 30 = .ok (.iload_n 3, 1) := by decide +kernel
theorem dc_H_read_31 : decode cb_H_read 31 = .ok (.iaload, 1) := by decide +kernel
theorem dc_H_read_32 : decode cb_H_read 32 = .ok (.ireturn, 1) := by decide +kernel
theorem dc_H_write_0 : decode cb_H_write 0 = .ok (.aload_n 1, 1) := by decide +kernel
theorem dc_H_write_1 : decode cb_H_write 1 = .ok (.getfield 115, 3) := by decide +kernel
theorem dc_H_write_4 : decode cb_H_write 4 = .ok (.iload_n 2, 1) := by decide +kernel
theorem dc_H_write_5 : decode cb_H_write 5 = .ok (.invokevirtual 251, 3) := by decide +kernel
theorem dc_H_write_8 : decode cb_H_write 8 = .ok (.istore 4, 2) := by decide +kernel
theorem dc_H_write_10 : decode cb_H_write 10 = .ok (.iload 4, 2) := by decide +kernel
theorem dc_H_write_12 : decode cb_H_write 12 = .ok (.iconst (-1), 1) := by decide +kernel
theorem dc_H_write_13 : decode cb_H_write 13 = .ok (.if_icmp .ne 13, 3) := by decide +kernel
theorem dc_H_write_16 : decode cb_H_write 16 = .ok (.aload_n 0, 1) := by decide +kernel
theorem dc_H_write_17 : decode cb_H_write 17 = .ok (.getfield 32, 3) := by decide +kernel
theorem dc_H_write_20 : decode cb_H_write 20 = .ok (.iload_n 2, 1) := by decide +kernel
theorem dc_H_write_21 : decode cb_H_write 21 = .ok (.iload_n 3, 1) := by decide +kernel
theorem dc_H_write_22 : decode cb_H_write 22 = .ok (.iastore, 1) := by decide +kernel
theorem dc_H_write_23 : decode cb_H_write 23 = .ok (.goto 14, 3) := by decide +kernel
theorem dc_H_write_26 : decode cb_H_write 26 = .ok (.aload_n 1, 1) := by decide +kernel
theorem dc_H_write_27 : decode cb_H_write 27 = .ok (.getfield 115, 3) := by decide +kernel
theorem dc_H_write_30 : decode cb_H_write 30 = .ok (.getfield 255, 3) := by decide +kernel
theorem dc_H_write_33 : decode cb_H_write 33 = .ok (.iload 4, 2) := by decide +kernel
theorem dc_H_write_35 : decode cb_H_write 35 = .ok (.iload_n 3, 1) := by decide +kernel
theorem dc_H_write_36 : decode cb_H_write 36 = .ok (.iastore, 1) := by decide +kernel
theorem dc_H_write_37 : decode cb_H_write 37 = .ok (.return_, 1) := by decide +kernel
theorem dc_H_bind_0 : decode cb_H_bind 0 = .ok (.aload_n 0, 1) := by decide +kernel
theorem dc_H_bind_1 : decode cb_H_bind 1 = .ok (.getfield 115, 3) := by decide +kernel
theorem dc_H_bind_4 : decode cb_H_bind 4 = .ok (.invokevirtual 258, 3) := by decide +kernel
theorem dc_H_bind_7 : decode cb_H_bind 7 = .ok (.ifCond .eq 5, 3) := by decide +kernel
theorem dc_H_bind_10 : decode cb_H_bind 10 = .ok (.iconst 1, 1) := by decide +kernel
theorem dc_H_bind_11 : decode cb_H_bind 11 = .ok (.ireturn, 1) := by decide +kernel
theorem dc_H_bind_12 : decode cb_H_bind 12 = .ok (.aload_n 0, 1) := by decide +kernel
theorem dc_H_bind_13 : decode cb_H_bind 13 = .ok (.getfield 115, 3) := by decide +kernel
theorem dc_H_bind_16 : decode cb_H_bind 16 = .ok (.iload_n 1, 1) := by decide +kernel
theorem dc_H_bind_17 : decode cb_H_bind 17 = .ok (.iload_n 2, 1) := by decide +kernel
theorem dc_H_bind_18 : decode cb_H_bind 18 = .ok (.invokevirtual 261, 3) := by decide +kernel
theorem dc_H_bind_21 : decode cb_H_bind 21 = .ok (.iconst 0, 1) := by decide +kernel
theorem dc_H_bind_22 : decode cb_H_bind 22 = .ok (.ireturn, 1) := by decide +kernel
theorem dc_H_unbind_0 : decode cb_H_unbind 0 = .ok (.aload_n 0, 1) := by decide +kernel
theorem dc_H_unbind_1 : decode cb_H_unbind 1 = .ok (.getfield 115, 3) := by decide +kernel
theorem dc_H_unbind_4 : decode cb_H_unbind 4 = .ok (.iload_n 1, 1) := by decide +kernel
theorem dc_H_unbind_5 : decode cb_H_unbind 5 = .ok (.invokevirtual 251, 3) := by decide +kernel
theorem dc_H_unbind_8 : decode cb_H_unbind 8 = .ok (.istore_n 2, 1) := by decide +kernel
theorem dc_H_unbind_9 : decode cb_H_unbind 9 = .ok (.iload_n 2, 1) := by decide +kernel
theorem dc_H_unbind_10 : decode cb_H_unbind 10 = .ok (.iconst (-1), 1) := by decide +kernel
theorem dc_H_unbind_11 : decode cb_H_unbind 11 = .ok (.if_icmp .ne 5, 3) := by decide +kernel
theorem dc_H_unbind_14 : decode cb_H_unbind 14 = .ok (.iconst 2, 1) := by decide +kernel
theorem dc_H_unbind_15 : decode cb_H_unbind 15 = .ok (.ireturn, 1) := by decide +kernel
theorem dc_H_unbind_16 : decode cb_H_unbind 16 = .ok (.aload_n 0, 1) := by decide +kernel
theorem dc_H_unbind_17 : decode cb_H_unbind 17 = .ok (.getfield 115, 3) := by decide +kernel
theorem dc_H_unbind_20 : decode cb_H_unbind 20 = .ok (.iload_n 2, 1) := by decide +kernel
theorem dc_H_unbind_21 : decode cb_H_unbind 21 = .ok (.invokevirtual 263, 3) := by decide +kernel
theorem dc_H_unbind_24 : decode cb_H_unbind 24 = .ok (.iconst 0, 1) := by decide +kernel
theorem dc_H_unbind_25 : decode cb_H_unbind 25 = .ok (.ireturn, 1) := by decide +kernel
theorem dc_H_hook_0 : decode cb_H_hook 0 = .ok (.aload_n 0, 1) := by decide +kernel
theorem dc_H_hook_1 : decode cb_H_hook 1 = .ok (.getfield 122, 3) := by decide +kernel
theorem dc_H_hook_4 : decode cb_H_hook 4 = .ok (.invokevirtual 258, 3) := by decide +kernel
theorem dc_H_hook_7 : decode cb_H_hook 7 = .ok (.ifCond .eq 6, 3) := by decide +kernel
theorem dc_H_hook_10 : decode cb_H_hook 10 = .ok (.bipush 6, 2) := by decide +kernel
theorem dc_H_hook_12 : decode cb_H_hook 12 = .ok (.ireturn, 1) := by decide +kernel
theorem dc_H_hook_13 : decode cb_H_hook 13 = .ok (.aload_n 0, 1) := by decide +kernel
theorem dc_H_hook_14 : decode cb_H_hook 14 = .ok (.getfield 122, 3) := by decide +kernel
theorem dc_H_hook_17 : decode cb_H_hook 17 = .ok (.iload_n 1, 1) := by decide +kernel
theorem dc_H_hook_18 : decode cb_H_hook 18 = .ok (.iload_n 2, 1) := by decide +kernel
theorem dc_H_hook_19 : decode cb_H_hook 19 = .ok (.invokevirtual 261, 3) := by decide +kernel
theorem dc_H_hook_22 : decode cb_H_hook 22 = .ok (.iconst 0, 1) := by decide +kernel
theorem dc_H_hook_23 : decode cb_H_hook 23 = .ok (.ireturn, 1) := by decide +kernel
theorem dc_H_jumpIfZero_0 : decode cb_H_jumpIfZero 0 = .ok (.aload_n 0, 1) := by decide +kernel
theorem dc_H_jumpIfZero_1 : decode cb_H_jumpIfZero 1 = .ok (.aload_n 1, 1) := by decide +kernel
theorem dc_H_jumpIfZero_2 : decode cb_H_jumpIfZero 2 = .ok (.iload_n 2, 1) := by decide +kernel
theorem dc_H_jumpIfZero_3 : decode cb_H_jumpIfZero 3 = .ok (.invokevirtual 102, 3) := by decide +kernel
theorem dc_H_jumpIfZero_6 : decode cb_H_jumpIfZero 6 = .ok (.ifCond .ne 8, 3) := by decide +kernel
theorem dc_H_jumpIfZero_9 : decode cb_H_jumpIfZero 9 = .ok (.aload_n 1, 1) := by decide +kernel
theorem dc_H_jumpIfZero_10 : decode cb_H_jumpIfZero 10 = .ok (.iload_n 3, 1) := by decide +kernel
theorem dc_H_jumpIfZero_11 : decode cb_H_jumpIfZero 11 = .ok (.putfield 109, 3) := by decide +kernel
theorem dc_H_jumpIfZero_14 : decode cb_H_jumpIfZero 14 = .ok (.return_, 1) := by decide +kernel
theorem dc_H_keepSaid_0 : decode cb_H_keepSaid 0 = .ok (.aload_n 0, 1) := by decide +kernel
theorem dc_H_keepSaid_1 : decode cb_H_keepSaid 1 = .ok (.getfield 155, 3) := by decide +kernel
theorem dc_H_keepSaid_4 : decode cb_H_keepSaid 4 = .ok (.bipush 40, 2) := by decide +kernel
theorem dc_H_keepSaid_6 : decode cb_H_keepSaid 6 = .ok (.if_icmp .ge 13, 3) := by decide +kernel
theorem dc_H_keepSaid_9 : decode cb_H_keepSaid 9 = .ok (.aload_n 0, 1) := by decide +kernel
theorem dc_H_keepSaid_10 : decode cb_H_keepSaid 10 = .ok (.getfield 36, 3) := by decide +kernel
theorem dc_H_keepSaid_13 : decode cb_H_keepSaid 13 = .ok (.aload_n 0, 1) := by decide +kernel
theorem dc_H_keepSaid_14 : decode cb_H_keepSaid 14 = .ok (.getfield 155, 3) := by decide +kernel
theorem dc_H_keepSaid_17 : decode cb_H_keepSaid 17 = .ok (.iload_n 1, 1) := by decide +kernel
theorem dc_H_keepSaid_18 : decode cb_H_keepSaid 18 = .ok (.iastore, 1) := by decide +kernel
theorem dc_H_keepSaid_19 : decode cb_H_keepSaid 19 = .ok (.aload_n 0, 1) := by decide +kernel
theorem dc_H_keepSaid_20 : decode cb_H_keepSaid 20 = .ok (.dup, 1) := by decide +kernel
theorem dc_H_keepSaid_21 : decode cb_H_keepSaid 21 = .ok (.getfield 155, 3) := by decide +kernel
theorem dc_H_keepSaid_24 : decode cb_H_keepSaid 24 = .ok (.iconst 1, 1) := by decide +kernel
theorem dc_H_keepSaid_25 : decode cb_H_keepSaid 25 = .ok (.iadd, 1) := by decide +kernel
theorem dc_H_keepSaid_26 : decode cb_H_keepSaid 26 = .ok (.putfield 155, 3) := by decide +kernel
theorem dc_H_keepSaid_29 : decode cb_H_keepSaid 29 = .ok (.return_, 1) := by decide +kernel
theorem dc_H_goFor_0 : decode cb_H_goFor 0 = .ok (.aload_n 0, 1) := by decide +kernel
theorem dc_H_goFor_1 : decode cb_H_goFor 1 = .ok (.getfield 20, 3) := by decide +kernel
theorem dc_H_goFor_4 : decode cb_H_goFor 4 = .ok (.iload_n 2, 1) := by decide +kernel
theorem dc_H_goFor_5 : decode cb_H_goFor 5 = .ok (.aaload, 1) := by decide +kernel
theorem dc_H_goFor_6 : decode cb_H_goFor 6 = .ok (.astore 4, 2) := by decide +kernel
theorem dc_H_goFor_8 : decode cb_H_goFor 8 = .ok (.aload 4, 2) := by decide +kernel
theorem dc_H_goFor_10 : decode cb_H_goFor 10 = .ok (.aload_n 1, 1) := by decide +kernel
theorem dc_H_goFor_11 : decode cb_H_goFor 11 = .ok (.getfield 176, 3) := by decide +kernel
theorem dc_H_goFor_14 : decode cb_H_goFor 14 = .ok (.invokevirtual 266, 3) := by decide +kernel
theorem dc_H_goFor_17 : decode cb_H_goFor 17 = .ok (.ifCond .eq 21, 3) := by decide +kernel
theorem dc_H_goFor_20 : decode cb_H_goFor 20 = .ok (.aload 4, 2) := by decide +kernel
theorem dc_H_goFor_22 : decode cb_H_goFor 22 = .ok (.aload_n 1, 1) := by decide +kernel
theorem dc_H_goFor_23 : decode cb_H_goFor 23 = .ok (.getfield 176, 3) := by decide +kernel
theorem dc_H_goFor_26 : decode cb_H_goFor 26 = .ok (.iload_n 3, 1) := by decide +kernel
theorem dc_H_goFor_27 : decode cb_H_goFor 27 = .ok (.invokevirtual 270, 3) := by decide +kernel
theorem dc_H_goFor_30 : decode cb_H_goFor 30 = .ok (.aload_n 1, 1) := by decide +kernel
theorem dc_H_goFor_31 : decode cb_H_goFor 31 = .ok (.iconst 1, 1) := by decide +kernel
theorem dc_H_goFor_32 : decode cb_H_goFor 32 = .ok (.putfield 106, 3) := by decide +kernel
theorem dc_H_goFor_35 : decode cb_H_goFor 35 = .ok (.goto 25, 3) := by decide +kernel
theorem dc_H_goFor_38 : decode cb_H_goFor 38 = .ok (.aload_n 1, 1) := by decide +kernel
theorem dc_H_goFor_39 : decode cb_H_goFor 39 = .ok (.iload_n 3, 1) := by decide +kernel
theorem dc_H_goFor_40 : decode cb_H_goFor 40 = .ok (.putfield 273, 3) := by decide +kernel
theorem dc_H_goFor_43 : decode cb_H_goFor 43 = .ok (.aload_n 1, 1) := by decide +kernel
theorem dc_H_goFor_44 : decode cb_H_goFor 44 = .ok (.iconst 2, 1) := by decide +kernel
theorem dc_H_goFor_45 : decode cb_H_goFor 45 = .ok (.putfield 106, 3) := by decide +kernel
theorem dc_H_goFor_48 : decode cb_H_goFor 48 = .ok (.aload 4, 2) := by decide +kernel
theorem dc_H_goFor_50 : decode cb_H_goFor 50 = .ok (.getfield 152, 3) := by decide +kernel
theorem dc_H_goFor_53 : decode cb_H_goFor 53 = .ok (.aload_n 1, 1) := by decide +kernel
theorem dc_H_goFor_54 : decode cb_H_goFor 54 = .ok (.getfield 176, 3) := by decide +kernel
theorem dc_H_goFor_57 : decode cb_H_goFor 57 = .ok (.invokevirtual 276, 3) := by decide +kernel
theorem dc_H_goFor_60 : decode cb_H_goFor 60 = .ok (.return_, 1) := by decide +kernel
theorem dc_H_passOn_0 : decode cb_H_passOn 0 = .ok (.aload_n 1, 1) := by decide +kernel
theorem dc_H_passOn_1 : decode cb_H_passOn 1 = .ok (.iconst (-1), 1) := by decide +kernel
theorem dc_H_passOn_2 : decode cb_H_passOn 2 = .ok (.putfield 146, 3) := by decide +kernel
theorem dc_H_passOn_5 : decode cb_H_passOn 5 = .ok (.aload_n 1, 1) := by decide +kernel
theorem dc_H_passOn_6 : decode cb_H_passOn 6 = .ok (.iconst 0, 1) := by decide +kernel
theorem dc_H_passOn_7 : decode cb_H_passOn 7 = .ok (.putfield 149, 3) := by decide +kernel
theorem dc_H_passOn_10 : decode cb_H_passOn 10 = .ok (.aload_n 1, 1) := by decide +kernel
theorem dc_H_passOn_11 : decode cb_H_passOn 11 = .ok (.getfield 152, 3) := by decide +kernel
theorem dc_H_passOn_14 : decode cb_H_passOn 14 = .ok (.invokevirtual 282, 3) := by decide +kernel
theorem dc_H_passOn_17 : decode cb_H_passOn 17 = .ok (.istore_n 2, 1) := by decide +kernel
theorem dc_H_passOn_18 : decode cb_H_passOn 18 = .ok (.iload_n 2, 1) := by decide +kernel
theorem dc_H_passOn_19 : decode cb_H_passOn 19 = .ok (.iconst (-1), 1) := by decide +kernel
theorem dc_H_passOn_20 : decode cb_H_passOn 20 = .ok (.if_icmp .eq 27, 3) := by decide +kernel
theorem dc_H_passOn_23 : decode cb_H_passOn 23 = .ok (.aload_n 1, 1) := by decide +kernel
theorem dc_H_passOn_24 : decode cb_H_passOn 24 = .ok (.iload_n 2, 1) := by decide +kernel
theorem dc_H_passOn_25 : decode cb_H_passOn 25 = .ok (.aload_n 0, 1) := by decide +kernel
theorem dc_H_passOn_26 : decode cb_H_passOn 26 = .ok (.getfield 11, 3) := by decide +kernel
theorem dc_H_passOn_29 : decode cb_H_passOn 29 = .ok (.iload_n 2, 1) := by decide +kernel
theorem dc_H_passOn_30 : decode cb_H_passOn 30 = .ok (.aaload, 1) := by decide +kernel
theorem dc_H_passOn_31 : decode cb_H_passOn 31 = .ok (.getfield 273, 3) := by decide +kernel
theorem dc_H_passOn_34 : decode cb_H_passOn 34 = .ok (.invokevirtual 270, 3) := by decide +kernel
theorem dc_H_passOn_37 : decode cb_H_passOn 37 = .ok (.aload_n 0, 1) := by decide +kernel
theorem dc_H_passOn_38 : decode cb_H_passOn 38 = .ok (.getfield 11, 3) := by decide +kernel
theorem dc_H_passOn_41 : decode cb_H_passOn 41 = .ok (.iload_n 2, 1) := by decide +kernel
theorem dc_H_passOn_42 : decode cb_H_passOn 42 = .ok (.aaload, 1) := by decide +kernel
theorem dc_H_passOn_43 : decode cb_H_passOn 43 = .ok (.iconst 1, 1) := by decide +kernel
theorem dc_H_passOn_44 : decode cb_H_passOn 44 = .ok (.putfield 106, 3) := by decide +kernel
theorem dc_H_passOn_47 : decode cb_H_passOn 47 = .ok (.return_, 1) := by decide +kernel
theorem dc_H_unlock_0 : decode cb_H_unlock 0 = .ok (.aload_n 0, 1) := by decide +kernel
theorem dc_H_unlock_1 : decode cb_H_unlock 1 = .ok (.getfield 20, 3) := by decide +kernel
theorem dc_H_unlock_4 : decode cb_H_unlock 4 = .ok (.iload_n 2, 1) := by decide +kernel
theorem dc_H_unlock_5 : decode cb_H_unlock 5 = .ok (.aaload, 1) := by decide +kernel
theorem dc_H_unlock_6 : decode cb_H_unlock 6 = .ok (.astore_n 3, 1) := by decide +kernel
theorem dc_H_unlock_7 : decode cb_H_unlock 7 = .ok (.aload_n 3, 1) := by decide +kernel
theorem dc_H_unlock_8 : decode cb_H_unlock 8 = .ok (.getfield 146, 3) := by decide +kernel
theorem dc_H_unlock_11 : decode cb_H_unlock 11 = .ok (.aload_n 1, 1) := by decide +kernel
theorem dc_H_unlock_12 : decode cb_H_unlock 12 = .ok (.getfield 176, 3) := by decide +kernel
theorem dc_H_unlock_15 : decode cb_H_unlock 15 = .ok (.if_icmp .eq 5, 3) := by decide +kernel
theorem dc_H_unlock_18 : decode cb_H_unlock 18 = .ok (.iconst 3, 1) := by decide +kernel
theorem dc_H_unlock_19 : decode cb_H_unlock 19 = .ok (.ireturn, 1) := by decide +kernel
theorem dc_H_unlock_20 : decode cb_H_unlock 20 = .ok (.aload_n 3, 1) := by decide +kernel
theorem dc_H_unlock_21 : decode cb_H_unlock 21 = .ok (.dup, 1) := by decide +kernel
theorem dc_H_unlock_22 : decode cb_H_unlock 22 = .ok (.getfield 149, 3) := by decide +kernel
theorem dc_H_unlock_25 : decode cb_H_unlock 25 = .ok (.iconst 1, 1) := by decide +kernel
theorem dc_H_unlock_26 : decode cb_H_unlock 26 = .ok (.isub, 1) := by decide +kernel
theorem dc_H_unlock_27 : decode cb_H_unlock 27 = .ok (.putfield 149, 3) := by decide +kernel
theorem dc_H_unlock_30 : decode cb_H_unlock 30 = .ok (.aload_n 3, 1) := by decide +kernel
theorem dc_H_unlock_31 : decode cb_H_unlock 31 = .ok (.getfield 149, 3) := by decide +kernel
theorem dc_H_unlock_34 : decode cb_H_unlock 34 = .ok (.ifCond .ne 8, 3) := by decide +kernel
theorem dc_H_unlock_37 : decode cb_H_unlock 37 = .ok (.aload_n 0, 1) := by decide +kernel
theorem dc_H_unlock_38 : decode cb_H_unlock 38 = .ok (.aload_n 3, 1) := by decide +kernel
theorem dc_H_unlock_39 : decode cb_H_unlock 39 = .ok (.invokevirtual 278, 3) := by decide +kernel
theorem dc_H_unlock_42 : decode cb_H_unlock 42 = .ok (.iconst 0, 1) := by decide +kernel
theorem dc_H_unlock_43 : decode cb_H_unlock 43 = .ok (.ireturn, 1) := by decide +kernel
theorem dc_H_tryLock_0 : decode cb_H_tryLock 0 = .ok (.aload_n 0, 1) := by decide +kernel
theorem dc_H_tryLock_1 : decode cb_H_tryLock 1 = .ok (.getfield 20, 3) := by decide +kernel
theorem dc_H_tryLock_4 : decode cb_H_tryLock 4 = .ok (.iload_n 2, 1) := by decide +kernel
theorem dc_H_tryLock_5 : decode cb_H_tryLock 5 = .ok (.aaload, 1) := by decide +kernel
theorem dc_H_tryLock_6 : decode cb_H_tryLock 6 = .ok (.aload_n 1, 1) := by decide +kernel
theorem dc_H_tryLock_7 : decode cb_H_tryLock 7 = .ok (.getfield 176, 3) := by decide +kernel
theorem dc_H_tryLock_10 : decode cb_H_tryLock 10 = .ok (.invokevirtual 266, 3) := by decide +kernel
theorem dc_H_tryLock_13 : decode cb_H_tryLock 13 = .ok (.istore 4, 2) := by decide +kernel
theorem dc_H_tryLock_15 : decode cb_H_tryLock 15 = .ok (.iload 4, 2) := by decide +kernel
theorem dc_H_tryLock_17 : decode cb_H_tryLock 17 = .ok (.ifCond .eq 17, 3) := by decide +kernel
theorem dc_H_tryLock_20 : decode cb_H_tryLock 20 = .ok (.aload_n 0, 1) := by decide +kernel
theorem dc_H_tryLock_21 : decode cb_H_tryLock 21 = .ok (.getfield 20, 3) := by decide +kernel
theorem dc_H_tryLock_24 : decode cb_H_tryLock 24 = .ok (.iload_n 2, 1) := by decide +kernel
theorem dc_H_tryLock_25 : decode cb_H_tryLock 25 = .ok (.aaload, 1) := by decide +kernel
theorem dc_H_tryLock_26 : decode cb_H_tryLock 26 = .ok (.aload_n 1, 1) := by decide +kernel
theorem dc_H_tryLock_27 : decode cb_H_tryLock 27 = .ok (.getfield 176, 3) := by decide +kernel
theorem dc_H_tryLock_30 : decode cb_H_tryLock 30 = .ok (.iconst 1, 1) := by decide +kernel
theorem dc_H_tryLock_31 : decode cb_H_tryLock 31 = .ok (.invokevirtual 270, 3) := by decide +kernel
theorem dc_H_tryLock_34 : decode cb_H_tryLock 34 = .ok (.aload_n 0, 1) := by decide +kernel
theorem dc_H_tryLock_35 : decode cb_H_tryLock 35 = .ok (.aload_n 1, 1) := by decide +kernel
theorem dc_H_tryLock_36 : decode cb_H_tryLock 36 = .ok (.iload_n 3, 1) := by decide +kernel
theorem dc_H_tryLock_37 : decode cb_H_tryLock 37 = .ok (.iload 4, 2) := by decide +kernel
theorem dc_H_tryLock_39 : decode cb_H_tryLock 39 = .ok (.ifCond .eq 7, 3) := by decide +kernel
theorem dc_H_tryLock_42 : decode cb_H_tryLock 42 = .ok (.iconst 1, 1) := by decide +kernel
theorem dc_H_tryLock_43 : decode cb_H_tryLock 43 = .ok (.goto 4, 3) := by decide +kernel
theorem dc_H_tryLock_46 : decode cb_H_tryLock 46 = .ok (.iconst 0, 1) := by decide +kernel
theorem dc_H_tryLock_47 : decode cb_H_tryLock 47 = .ok (.invokevirtual 205, 3) := by decide +kernel
theorem dc_H_tryLock_50 : decode cb_H_tryLock 50 = .ok (.return_, 1) := by decide +kernel
theorem dc_H_beginWait_0 : decode cb_H_beginWait 0 = .ok (.aload_n 0, 1) := by decide +kernel
theorem dc_H_beginWait_1 : decode cb_H_beginWait 1 = .ok (.getfield 20, 3) := by decide +kernel
theorem dc_H_beginWait_4 : decode cb_H_beginWait 4 = .ok (.iload_n 3, 1) := by decide +kernel
theorem dc_H_beginWait_5 : decode cb_H_beginWait 5 = .ok (.aaload, 1) := by decide +kernel
theorem dc_H_beginWait_6 : decode cb_H_beginWait 6 = .ok (.astore 4, 2) := by decide +kernel
theorem dc_H_beginWait_8 : decode cb_H_beginWait 8 = .ok (.aload 4, 2) := by decide +kernel
theorem dc_H_beginWait_10 : decode cb_H_beginWait 10 = .ok (.getfield 146, 3) := by decide +kernel
theorem dc_H_beginWait_13 : decode cb_H_beginWait 13 = .ok (.aload_n 1, 1) := by decide +kernel
theorem dc_H_beginWait_14 : decode cb_H_beginWait 14 = .ok (.getfield 176, 3) := by decide +kernel
theorem dc_H_beginWait_17 : decode cb_H_beginWait 17 = .ok (.if_icmp .eq 5, 3) := by decide +kernel
theorem dc_H_beginWait_20 : decode cb_H_beginWait 20 = .ok (.iconst 3, 1) := by decide +kernel
theorem dc_H_beginWait_21 : decode cb_H_beginWait 21 = .ok (.ireturn, 1) := by decide +kernel
theorem dc_H_beginWait_22 : decode cb_H_beginWait 22 = .ok (.aload_n 1, 1) := by decide +kernel
theorem dc_H_beginWait_23 : decode cb_H_beginWait 23 = .ok (.getfield 125, 3) := by decide +kernel
theorem dc_H_beginWait_26 : decode cb_H_beginWait 26 = .ok (.ifCond .eq 6, 3) := by decide +kernel
theorem dc_H_beginWait_29 : decode cb_H_beginWait 29 = .ok (.bipush 7, 2) := by decide +kernel
theorem dc_H_beginWait_31 : decode cb_H_beginWait 31 = .ok (.ireturn, 1) := by decide +kernel
theorem dc_H_beginWait_32 : decode cb_H_beginWait 32 = .ok (.aload_n 1, 1) := by decide +kernel
theorem dc_H_beginWait_33 : decode cb_H_beginWait 33 = .ok (.iload_n 2, 1) := by decide +kernel
theorem dc_H_beginWait_34 : decode cb_H_beginWait 34 = .ok (.putfield 285, 3) := by decide +kernel
theorem dc_H_beginWait_37 : decode cb_H_beginWait 37 = .ok (.aload_n 1, 1) := by decide +kernel
theorem dc_H_beginWait_38 : decode cb_H_beginWait 38 = .ok (.iload_n 3, 1) := by decide +kernel
theorem dc_H_beginWait_39 : decode cb_H_beginWait 39 = .ok (.putfield 288, 3) := by decide +kernel
theorem dc_H_beginWait_42 : decode cb_H_beginWait 42 = .ok (.aload_n 1, 1) := by decide +kernel
theorem dc_H_beginWait_43 : decode cb_H_beginWait 43 = .ok (.aload 4, 2) := by decide +kernel
theorem dc_H_beginWait_45 : decode cb_H_beginWait 45 = .ok (.getfield 149, 3) := by decide +kernel
theorem dc_H_beginWait_48 : decode cb_H_beginWait 48 = .ok (.putfield 273, 3) := by decide +kernel
theorem dc_H_beginWait_51 : decode cb_H_beginWait 51 = .ok (.aload_n 1, 1) := by decide +kernel
theorem dc_H_beginWait_52 : decode cb_H_beginWait 52 = .ok (.iconst 3, 1) := by decide +kernel
theorem dc_H_beginWait_53 : decode cb_H_beginWait 53 = .ok (.putfield 106, 3) := by decide +kernel
theorem dc_H_beginWait_56 : decode cb_H_beginWait 56 = .ok (.aload_n 0, 1) := by decide +kernel
theorem dc_H_beginWait_57 : decode cb_H_beginWait 57 = .ok (.getfield 27, 3) := by decide +kernel
theorem dc_H_beginWait_60 : decode cb_H_beginWait 60 = .ok (.iload_n 2, 1) := by decide +kernel
theorem dc_H_beginWait_61 : decode cb_H_beginWait 61 = .ok (.aaload, 1) := by decide +kernel
theorem dc_H_beginWait_62 : decode cb_H_beginWait 62 = .ok (.aload_n 1, 1) := by decide +kernel
theorem dc_H_beginWait_63 : decode cb_H_beginWait 63 = .ok (.getfield 176, 3) := by decide +kernel
theorem dc_H_beginWait_66 : decode cb_H_beginWait 66 = .ok (.invokevirtual 276, 3) := by decide +kernel
theorem dc_H_beginWait_69 : decode cb_H_beginWait 69 = .ok (.aload_n 0, 1) := by decide +kernel
theorem dc_H_beginWait_70 : decode cb_H_beginWait 70 = .ok (.aload 4, 2) := by decide +kernel
theorem dc_H_beginWait_72 : decode cb_H_beginWait 72 = .ok (.invokevirtual 278, 3) := by decide +kernel
theorem dc_H_beginWait_75 : decode cb_H_beginWait 75 = .ok (.iconst 0, 1) := by decide +kernel
theorem dc_H_beginWait_76 : decode cb_H_beginWait 76 = .ok (.ireturn, 1) := by decide +kernel
theorem dc_H_tellFirst_0 : decode cb_H_tellFirst 0 = .ok (.aload_n 1, 1) := by decide +kernel
theorem dc_H_tellFirst_1 : decode cb_H_tellFirst 1 = .ok (.invokevirtual 282, 3) := by decide +kernel
theorem dc_H_tellFirst_4 : decode cb_H_tellFirst 4 = .ok (.istore_n 2, 1) := by decide +kernel
theorem dc_H_tellFirst_5 : decode cb_H_tellFirst 5 = .ok (.iload_n 2, 1) := by decide +kernel
theorem dc_H_tellFirst_6 : decode cb_H_tellFirst 6 = .ok (.iconst (-1), 1) := by decide +kernel
theorem dc_H_tellFirst_7 : decode cb_H_tellFirst 7 = .ok (.if_icmp .eq 31, 3) := by decide +kernel
theorem dc_H_tellFirst_10 : decode cb_H_tellFirst 10 = .ok (.aload_n 0, 1) := by decide +kernel
theorem dc_H_tellFirst_11 : decode cb_H_tellFirst 11 = .ok (.aload_n 0, 1) := by decide +kernel
theorem dc_H_tellFirst_12 : decode cb_H_tellFirst 12 = .ok (.getfield 11, 3) := by decide +kernel
theorem dc_H_tellFirst_15 : decode cb_H_tellFirst 15 = .ok (.iload_n 2, 1) := by decide +kernel
theorem dc_H_tellFirst_16 : decode cb_H_tellFirst 16 = .ok (.aaload, 1) := by decide +kernel
theorem dc_H_tellFirst_17 : decode cb_H_tellFirst 17 = .ok (.aload_n 0, 1) := by decide +kernel
theorem dc_H_tellFirst_18 : decode cb_H_tellFirst 18 = .ok (.getfield 11, 3) := by decide +kernel
theorem dc_H_tellFirst_21 : decode cb_H_tellFirst 21 = .ok (.iload_n 2, 1) := by decide +kernel
theorem dc_H_tellFirst_22 : decode cb_H_tellFirst 22 = .ok (.aaload, 1) := by decide +kernel
theorem dc_H_tellFirst_23 : decode cb_H_tellFirst 23 = .ok (.getfield 288, 3) := by decide +kernel
theorem dc_H_tellFirst_26 : decode cb_H_tellFirst 26 = .ok (.aload_n 0, 1) := by decide +kernel
theorem dc_H_tellFirst_27 : decode cb_H_tellFirst 27 = .ok (.getfield 11, 3) := by decide +kernel
theorem dc_H_tellFirst_30 : decode cb_H_tellFirst 30 = .ok (.iload_n 2, 1) := by decide +kernel
theorem dc_H_tellFirst_31 : decode cb_H_tellFirst 31 = .ok (.aaload, 1) := by decide +kernel
theorem dc_H_tellFirst_32 : decode cb_H_tellFirst 32 = .ok (.getfield 273, 3) := by decide +kernel
theorem dc_H_tellFirst_35 : decode cb_H_tellFirst 35 = .ok (.invokevirtual 216, 3) := by decide +kernel
theorem dc_H_tellFirst_38 : decode cb_H_tellFirst 38 = .ok (.return_, 1) := by decide +kernel
theorem dc_H_tellAll_0 : decode cb_H_tellAll 0 = .ok (.aload_n 1, 1) := by decide +kernel
theorem dc_H_tellAll_1 : decode cb_H_tellAll 1 = .ok (.getfield 142, 3) := by decide +kernel
theorem dc_H_tellAll_4 : decode cb_H_tellAll 4 = .ok (.istore_n 2, 1) := by decide +kernel
theorem dc_H_tellAll_5 : decode cb_H_tellAll 5 = .ok (.iload_n 2, 1) := by decide +kernel
theorem dc_H_tellAll_6 : decode cb_H_tellAll 6 = .ok (.ifCond .le 14, 3) := by decide +kernel
theorem dc_H_tellAll_9 : decode cb_H_tellAll 9 = .ok (.aload_n 0, 1) := by decide +kernel
theorem dc_H_tellAll_10 : decode cb_H_tellAll 10 = .ok (.aload_n 1, 1) := by decide +kernel
theorem dc_H_tellAll_11 : decode cb_H_tellAll 11 = .ok (.invokevirtual 228, 3) := by decide +kernel
theorem dc_H_tellAll_14 : decode cb_H_tellAll 14 = .ok (.iinc 2 (-1), 3) := by decide +kernel
theorem dc_H_tellAll_17 : decode cb_H_tellAll 17 = .ok (.goto (-12), 3) := by decide +kernel
theorem dc_H_tellAll_20 : decode cb_H_tellAll 20 = .ok (.return_, 1) := by decide +kernel
theorem dc_H_startOther_0 : decode cb_H_startOther 0 = .ok (.aload_n 0, 1) := by decide +kernel
theorem dc_H_startOther_1 : decode cb_H_startOther 1 = .ok (.invokevirtual 79, 3) := by decide +kernel
theorem dc_H_startOther_4 : decode cb_H_startOther 4 = .ok (.ifCond .eq 5, 3) := by decide +kernel
theorem dc_H_startOther_7 : decode cb_H_startOther 7 = .ok (.iconst 4, 1) := by decide +kernel
theorem dc_H_startOther_8 : decode cb_H_startOther 8 = .ok (.ireturn, 1) := by decide +kernel
theorem dc_H_startOther_9 : decode cb_H_startOther 9 = .ok (.aload_n 0, 1) := by decide +kernel
theorem dc_H_startOther_10 : decode cb_H_startOther 10 = .ok (.invokevirtual 83, 3) := by decide +kernel
theorem dc_H_startOther_13 : decode cb_H_startOther 13 = .ok (.iconst 0, 1) := by decide +kernel
theorem dc_H_startOther_14 : decode cb_H_startOther 14 = .ok (.ireturn, 1) := by decide +kernel
theorem dc_H_beginJoin_0 : decode cb_H_beginJoin 0 = .ok (.aload_n 0, 1) := by decide +kernel
theorem dc_H_beginJoin_1 : decode cb_H_beginJoin 1 = .ok (.getfield 11, 3) := by decide +kernel
theorem dc_H_beginJoin_4 : decode cb_H_beginJoin 4 = .ok (.iload_n 2, 1) := by decide +kernel
theorem dc_H_beginJoin_5 : decode cb_H_beginJoin 5 = .ok (.aaload, 1) := by decide +kernel
theorem dc_H_beginJoin_6 : decode cb_H_beginJoin 6 = .ok (.astore 4, 2) := by decide +kernel
theorem dc_H_beginJoin_8 : decode cb_H_beginJoin 8 = .ok (.aload 4, 2) := by decide +kernel
theorem dc_H_beginJoin_10 : decode cb_H_beginJoin 10 = .ok (.getfield 106, 3) := by decide +kernel
theorem dc_H_beginJoin_13 : decode cb_H_beginJoin 13 = .ok (.iconst 5, 1) := by decide +kernel
theorem dc_H_beginJoin_14 : decode cb_H_beginJoin 14 = .ok (.if_icmp .ne 16, 3) := by decide +kernel
theorem dc_H_beginJoin_17 : decode cb_H_beginJoin 17 = .ok (.aload_n 0, 1) := by decide +kernel
theorem dc_H_beginJoin_18 : decode cb_H_beginJoin 18 = .ok (.aload_n 1, 1) := by decide +kernel
theorem dc_H_beginJoin_19 : decode cb_H_beginJoin 19 = .ok (.iload_n 3, 1) := by decide +kernel
theorem dc_H_beginJoin_20 : decode cb_H_beginJoin 20 = .ok (.aload 4, 2) := by decide +kernel
theorem dc_H_beginJoin_22 : decode cb_H_beginJoin 22 = .ok (.getfield 112, 3) := by decide +kernel
theorem dc_H_beginJoin_25 : decode cb_H_beginJoin 25 = .ok (.invokevirtual 205, 3) := by decide +kernel
theorem dc_H_beginJoin_28 : decode cb_H_beginJoin 28 = .ok (.iconst 0, 1) := by decide +kernel
theorem dc_H_beginJoin_29 : decode cb_H_beginJoin 29 = .ok (.ireturn, 1) := by decide +kernel
theorem dc_H_beginJoin_30 : decode cb_H_beginJoin 30 = .ok (.aload 4, 2) := by decide +kernel
theorem dc_H_beginJoin_32 : decode cb_H_beginJoin 32 = .ok (.getfield 106, 3) := by decide +kernel
theorem dc_H_beginJoin_35 : decode cb_H_beginJoin 35 = .ok (.ifCond .eq 11, 3) := by decide +kernel
theorem dc_H_beginJoin_38 : decode cb_H_beginJoin 38 = .ok (.iload_n 2, 1) := by decide +kernel
theorem dc_H_beginJoin_39 : decode cb_H_beginJoin 39 = .ok (.aload_n 1, 1) := by decide +kernel
theorem dc_H_beginJoin_40 : decode cb_H_beginJoin 40 = .ok (.getfield 176, 3) := by decide +kernel
theorem dc_H_beginJoin_43 : decode cb_H_beginJoin 43 = .ok (.if_icmp .ne 5, 3) := by decide +kernel
theorem dc_H_beginJoin_46 : decode cb_H_beginJoin 46 = .ok (.iconst 5, 1) := by decide +kernel
theorem dc_H_beginJoin_47 : decode cb_H_beginJoin 47 = .ok (.ireturn, 1) := by decide +kernel
theorem dc_H_beginJoin_48 : decode cb_H_beginJoin 48 = .ok (.aload_n 1, 1) := by decide +kernel
theorem dc_H_beginJoin_49 : decode cb_H_beginJoin 49 = .ok (.getfield 125, 3) := by decide +kernel
theorem dc_H_beginJoin_52 : decode cb_H_beginJoin 52 = .ok (.ifCond .eq 6, 3) := by decide +kernel
theorem dc_H_beginJoin_55 : decode cb_H_beginJoin 55 = .ok (.bipush 7, 2) := by decide +kernel
theorem dc_H_beginJoin_57 : decode cb_H_beginJoin 57 = .ok (.ireturn, 1) := by decide +kernel
theorem dc_H_beginJoin_58 : decode cb_H_beginJoin 58 = .ok (.aload_n 1, 1) := by decide +kernel
theorem dc_H_beginJoin_59 : decode cb_H_beginJoin 59 = .ok (.iload_n 2, 1) := by decide +kernel
theorem dc_H_beginJoin_60 : decode cb_H_beginJoin 60 = .ok (.putfield 291, 3) := by decide +kernel
theorem dc_H_beginJoin_63 : decode cb_H_beginJoin 63 = .ok (.aload_n 1, 1) := by decide +kernel
theorem dc_H_beginJoin_64 : decode cb_H_beginJoin 64 = .ok (.iload_n 3, 1) := by decide +kernel
theorem dc_H_beginJoin_65 : decode cb_H_beginJoin 65 = .ok (.putfield 294, 3) := by decide +kernel
theorem dc_H_beginJoin_68 : decode cb_H_beginJoin 68 = .ok (.aload_n 1, 1) := by decide +kernel
theorem dc_H_beginJoin_69 : decode cb_H_beginJoin 69 = .ok (.iconst 4, 1) := by decide +kernel
theorem dc_H_beginJoin_70 : decode cb_H_beginJoin 70 = .ok (.putfield 106, 3) := by decide +kernel
theorem dc_H_beginJoin_73 : decode cb_H_beginJoin 73 = .ok (.aload 4, 2) := by decide +kernel
theorem dc_H_beginJoin_75 : decode cb_H_beginJoin 75 = .ok (.getfield 138, 3) := by decide +kernel
theorem dc_H_beginJoin_78 : decode cb_H_beginJoin 78 = .ok (.aload_n 1, 1) := by decide +kernel
theorem dc_H_beginJoin_79 : decode cb_H_beginJoin 79 = .ok (.getfield 176, 3) := by decide +kernel
theorem dc_H_beginJoin_82 : decode cb_H_beginJoin 82 = .ok (.invokevirtual 276, 3) := by decide +kernel
theorem dc_H_beginJoin_85 : decode cb_H_beginJoin 85 = .ok (.iconst 0, 1) := by decide +kernel
theorem dc_H_beginJoin_86 : decode cb_H_beginJoin 86 = .ok (.ireturn, 1) := by decide +kernel
theorem dc_H_interruptAlive_0 : decode cb_H_interruptAlive 0 = .ok (.aload_n 1, 1) := by decide +kernel
theorem dc_H_interruptAlive_1 : decode cb_H_interruptAlive 1 = .ok (.getfield 106, 3) := by decide +kernel
theorem dc_H_interruptAlive_4 : decode cb_H_interruptAlive 4 = .ok (.iconst 3, 1) := by decide +kernel
theorem dc_H_interruptAlive_5 : decode cb_H_interruptAlive 5 = .ok (.if_icmp .ne 40, 3) := by decide +kernel
theorem dc_H_interruptAlive_8 : decode cb_H_interruptAlive 8 = .ok (.aload_n 0, 1) := by decide +kernel
theorem dc_H_interruptAlive_9 : decode cb_H_interruptAlive 9 = .ok (.getfield 27, 3) := by decide +kernel
theorem dc_H_interruptAlive_12 : decode cb_H_interruptAlive 12 = .ok (.aload_n 1, 1) := by decide +kernel
theorem dc_H_interruptAlive_13 : decode cb_H_interruptAlive 13 = .ok (.getfield 285, 3) := by decide +kernel
theorem dc_H_interruptAlive_16 : decode cb_H_interruptAlive 16 = .ok (.aaload, 1) := by decide +kernel
theorem dc_H_interruptAlive_17 : decode cb_H_interruptAlive 17 = .ok (.aload_n 1, 1) := by decide +kernel
theorem dc_H_interruptAlive_18 : decode cb_H_interruptAlive 18 = .ok (.getfield 176, 3) := by decide +kernel
theorem dc_H_interruptAlive_21 : decode cb_H_interruptAlive 21 = .ok (.invokevirtual 297, 3) := by decide +kernel
theorem dc_H_interruptAlive_24 : decode cb_H_interruptAlive 24 = .ok (.aload_n 1, 1) := by decide +kernel
theorem dc_H_interruptAlive_25 : decode cb_H_interruptAlive 25 = .ok (.iconst 1, 1) := by decide +kernel
theorem dc_H_interruptAlive_26 : decode cb_H_interruptAlive 26 = .ok (.putfield 179, 3) := by decide +kernel
theorem dc_H_interruptAlive_29 : decode cb_H_interruptAlive 29 = .ok (.aload_n 0, 1) := by decide +kernel
theorem dc_H_interruptAlive_30 : decode cb_H_interruptAlive 30 = .ok (.aload_n 1, 1) := by decide +kernel
theorem dc_H_interruptAlive_31 : decode cb_H_interruptAlive 31 = .ok (.aload_n 1, 1) := by decide +kernel
theorem dc_H_interruptAlive_32 : decode cb_H_interruptAlive 32 = .ok (.getfield 288, 3) := by decide +kernel
theorem dc_H_interruptAlive_35 : decode cb_H_interruptAlive 35 = .ok (.aload_n 1, 1) := by decide +kernel
theorem dc_H_interruptAlive_36 : decode cb_H_interruptAlive 36 = .ok (.getfield 273, 3) := by decide +kernel
theorem dc_H_interruptAlive_39 : decode cb_H_interruptAlive 39 = .ok (.invokevirtual 216, 3) := by decide +kernel
theorem dc_H_interruptAlive_42 : decode cb_H_interruptAlive 42 = .ok (.goto 55, 3) := by decide +kernel
theorem dc_H_interruptAlive_45 : decode cb_H_interruptAlive 45 = .ok (.aload_n 1, 1) := by decide +kernel
theorem dc_H_interruptAlive_46 : decode cb_H_interruptAlive 46 = .ok (.getfield 106, 3) := by decide +kernel
theorem dc_H_interruptAlive_49 : decode cb_H_interruptAlive 49 = .ok (.iconst 4, 1) := by decide +kernel
theorem dc_H_interruptAlive_50 : decode cb_H_interruptAlive 50 = .ok (.if_icmp .ne 35, 3) := by decide +kernel
theorem dc_H_interruptAlive_53 : decode cb_H_interruptAlive 53 = .ok (.aload_n 0, 1) := by decide +kernel
theorem dc_H_interruptAlive_54 : decode cb_H_interruptAlive 54 = .ok (.getfield 11, 3) := by decide +kernel
theorem dc_H_interruptAlive_57 : decode cb_H_interruptAlive 57 = .ok (.aload_n 1, 1) := by decide +kernel
theorem dc_H_interruptAlive_58 : decode cb_H_interruptAlive 58 = .ok (.getfield 291, 3) := by decide +kernel
theorem dc_H_interruptAlive_61 : decode cb_H_interruptAlive 61 = .ok (.aaload, 1) := by decide +kernel
theorem dc_H_interruptAlive_62 : decode cb_H_interruptAlive 62 = .ok (.getfield 138, 3) := by decide +kernel
theorem dc_H_interruptAlive_65 : decode cb_H_interruptAlive 65 = .ok (.aload_n 1, 1) := by decide +kernel
theorem dc_H_interruptAlive_66 : decode cb_H_interruptAlive 66 = .ok (.getfield 176, 3) := by decide +kernel
theorem dc_H_interruptAlive_69 : decode cb_H_interruptAlive 69 = .ok (.invokevirtual 297, 3) := by decide +kernel
theorem dc_H_interruptAlive_72 : decode cb_H_interruptAlive 72 = .ok (.aload_n 1, 1) := by decide +kernel
theorem dc_H_interruptAlive_73 : decode cb_H_interruptAlive 73 = .ok (.iconst 1, 1) := by decide +kernel
theorem dc_H_interruptAlive_74 : decode cb_H_interruptAlive 74 = .ok (.putfield 179, 3) := by decide +kernel
theorem dc_H_interruptAlive_77 : decode cb_H_interruptAlive 77 = .ok (.aload_n 1, 1) := by decide +kernel
theorem dc_H_interruptAlive_78 : decode cb_H_interruptAlive 78 = .ok (.iconst 1, 1) := by decide +kernel
theorem dc_H_interruptAlive_79 : decode cb_H_interruptAlive 79 = .ok (.putfield 106, 3) := by decide +kernel
theorem dc_H_interruptAlive_82 : decode cb_H_interruptAlive 82 = .ok (.goto 15, 3) := by decide +kernel
theorem dc_H_interruptAlive_85 : decode cb_H_interruptAlive 85 = .ok (.aload_n 1, 1) := by decide +kernel
theorem dc_H_interruptAlive_86 : decode cb_H_interruptAlive 86 = .ok (.invokevirtual 79, 3) := by decide +kernel
theorem dc_H_interruptAlive_89 : decode cb_H_interruptAlive 89 = .ok (.ifCond .eq 8, 3) := by decide +kernel
theorem dc_H_interruptAlive_92 : decode cb_H_interruptAlive 92 = .ok (.aload_n 1, 1) := by decide +kernel
theorem dc_H_interruptAlive_93 : decode cb_H_interruptAlive 93 = .ok (.iconst 1, 1) := by decide +kernel
theorem dc_H_interruptAlive_94 : decode cb_H_interruptAlive 94 = .ok (.putfield 125, 3) := by decide +kernel
theorem dc_H_interruptAlive_97 : decode cb_H_interruptAlive 97 = .ok (.return_, 1) := by decide +kernel
theorem dc_H_runHooks_0 : decode cb_H_runHooks 0 = .ok (.aload_n 1, 1) := by decide +kernel
theorem dc_H_runHooks_1 : decode cb_H_runHooks 1 = .ok (.getfield 122, 3) := by decide +kernel
theorem dc_H_runHooks_4 : decode cb_H_runHooks 4 = .ok (.astore_n 2, 1) := by decide +kernel
theorem dc_H_runHooks_5 : decode cb_H_runHooks 5 = .ok (.aload_n 2, 1) := by decide +kernel
theorem dc_H_runHooks_6 : decode cb_H_runHooks 6 = .ok (.getfield 119, 3) := by decide +kernel
theorem dc_H_runHooks_9 : decode cb_H_runHooks 9 = .ok (.iconst 1, 1) := by decide +kernel
theorem dc_H_runHooks_10 : decode cb_H_runHooks 10 = .ok (.isub, 1) := by decide +kernel
theorem dc_H_runHooks_11 : decode cb_H_runHooks 11 = .ok (.istore_n 3, 1) := by decide +kernel
theorem dc_H_runHooks_12 : decode cb_H_runHooks 12 = .ok (.iload_n 3, 1) := by decide +kernel
theorem dc_H_runHooks_13 : decode cb_H_runHooks 13 = .ok (.ifCond .lt 38, 3) := by decide +kernel
theorem dc_H_runHooks_16 : decode cb_H_runHooks 16 = .ok (.aload_n 2, 1) := by decide +kernel
theorem dc_H_runHooks_17 : decode cb_H_runHooks 17 = .ok (.getfield 310, 3) := by decide +kernel
theorem dc_H_runHooks_20 : decode cb_H_runHooks 20 = .ok (.iload_n 3, 1) := by decide +kernel
theorem dc_H_runHooks_21 : decode cb_H_runHooks 21 = .ok (.iaload, 1) := by decide +kernel
theorem dc_H_runHooks_22 : decode cb_H_runHooks 22 = .ok (.istore 4, 2) := by decide +kernel
theorem dc_H_runHooks_24 : decode cb_H_runHooks 24 = .ok (.aload_n 0, 1) := by decide +kernel
theorem dc_H_runHooks_25 : decode cb_H_runHooks 25 = .ok (.aload_n 1, 1) := by decide +kernel
theorem dc_H_runHooks_26 : decode cb_H_runHooks 26 = .ok (.iload 4, 2) := by decide +kernel
theorem dc_H_runHooks_28 : decode cb_H_runHooks 28 = .ok (.aload_n 0, 1) := by decide +kernel
theorem dc_H_runHooks_29 : decode cb_H_runHooks 29 = .ok (.aload_n 1, 1) := by decide +kernel
theorem dc_H_runHooks_30 : decode cb_H_runHooks 30 = .ok (.iload 4, 2) := by decide +kernel
theorem dc_H_runHooks_32 : decode cb_H_runHooks 32 = .ok (.invokevirtual 102, 3) := by decide +kernel
theorem dc_H_runHooks_35 : decode cb_H_runHooks 35 = .ok (.aload_n 2, 1) := by decide +kernel
theorem dc_H_runHooks_36 : decode cb_H_runHooks 36 = .ok (.getfield 255, 3) := by decide +kernel
theorem dc_H_runHooks_39 : decode cb_H_runHooks 39 = .ok (.iload_n 3, 1) := by decide +kernel
theorem dc_H_runHooks_40 : decode cb_H_runHooks 40 = .ok (.iaload, 1) := by decide +kernel
theorem dc_H_runHooks_41 : decode cb_H_runHooks 41 = .ok (.iadd, 1) := by decide +kernel
theorem dc_H_runHooks_42 : decode cb_H_runHooks 42 = .ok (.invokevirtual 205, 3) := by decide +kernel
theorem dc_H_runHooks_45 : decode cb_H_runHooks 45 = .ok (.iinc 3 (-1), 3) := by decide +kernel
theorem dc_H_runHooks_48 : decode cb_H_runHooks 48 = .ok (.goto (-36), 3) := by decide +kernel
theorem dc_H_runHooks_51 : decode cb_H_runHooks 51 = .ok (.return_, 1) := by decide +kernel
theorem dc_H_wakeJoiners_0 : decode cb_H_wakeJoiners 0 = .ok (.aload_n 1, 1) := by decide +kernel
theorem dc_H_wakeJoiners_1 : decode cb_H_wakeJoiners 1 = .ok (.getfield 138, 3) := by decide +kernel
theorem dc_H_wakeJoiners_4 : decode cb_H_wakeJoiners 4 = .ok (.getfield 142, 3) := by decide +kernel
theorem dc_H_wakeJoiners_7 : decode cb_H_wakeJoiners 7 = .ok (.istore_n 2, 1) := by decide +kernel
theorem dc_H_wakeJoiners_8 : decode cb_H_wakeJoiners 8 = .ok (.iload_n 2, 1) := by decide +kernel
theorem dc_H_wakeJoiners_9 : decode cb_H_wakeJoiners 9 = .ok (.ifCond .le 55, 3) := by decide +kernel
theorem dc_H_wakeJoiners_12 : decode cb_H_wakeJoiners 12 = .ok (.aload_n 1, 1) := by decide +kernel
theorem dc_H_wakeJoiners_13 : decode cb_H_wakeJoiners 13 = .ok (.getfield 138, 3) := by decide +kernel
theorem dc_H_wakeJoiners_16 : decode cb_H_wakeJoiners 16 = .ok (.invokevirtual 282, 3) := by decide +kernel
theorem dc_H_wakeJoiners_19 : decode cb_H_wakeJoiners 19 = .ok (.istore_n 3, 1) := by decide +kernel
theorem dc_H_wakeJoiners_20 : decode cb_H_wakeJoiners 20 = .ok (.iload_n 3, 1) := by decide +kernel
theorem dc_H_wakeJoiners_21 : decode cb_H_wakeJoiners 21 = .ok (.iconst (-1), 1) := by decide +kernel
theorem dc_H_wakeJoiners_22 : decode cb_H_wakeJoiners 22 = .ok (.if_icmp .eq 36, 3) := by decide +kernel
theorem dc_H_wakeJoiners_25 : decode cb_H_wakeJoiners 25 = .ok (.aload_n 0, 1) := by decide +kernel
theorem dc_H_wakeJoiners_26 : decode cb_H_wakeJoiners 26 = .ok (.aload_n 0, 1) := by decide +kernel
theorem dc_H_wakeJoiners_27 : decode cb_H_wakeJoiners 27 = .ok (.getfield 11, 3) := by decide +kernel
theorem dc_H_wakeJoiners_30 : decode cb_H_wakeJoiners 30 = .ok (.iload_n 3, 1) := by decide +kernel
theorem dc_H_wakeJoiners_31 : decode cb_H_wakeJoiners 31 = .ok (.aaload, 1) := by decide +kernel
theorem dc_H_wakeJoiners_32 : decode cb_H_wakeJoiners 32 = .ok (.aload_n 0, 1) := by decide +kernel
theorem dc_H_wakeJoiners_33 : decode cb_H_wakeJoiners 33 = .ok (.getfield 11, 3) := by decide +kernel
theorem dc_H_wakeJoiners_36 : decode cb_H_wakeJoiners 36 = .ok (.iload_n 3, 1) := by decide +kernel
theorem dc_H_wakeJoiners_37 : decode cb_H_wakeJoiners 37 = .ok (.aaload, 1) := by decide +kernel
theorem dc_H_wakeJoiners_38 : decode cb_H_wakeJoiners 38 = .ok (.getfield 294, 3) := by decide +kernel
theorem dc_H_wakeJoiners_41 : decode cb_H_wakeJoiners 41 = .ok (.aload_n 1, 1) := by decide +kernel
theorem dc_H_wakeJoiners_42 : decode cb_H_wakeJoiners 42 = .ok (.getfield 112, 3) := by decide +kernel
theorem dc_H_wakeJoiners_45 : decode cb_H_wakeJoiners 45 = .ok (.invokevirtual 205, 3) := by decide +kernel
theorem dc_H_wakeJoiners_48 : decode cb_H_wakeJoiners 48 = .ok (.aload_n 0, 1) := by decide +kernel
theorem dc_H_wakeJoiners_49 : decode cb_H_wakeJoiners 49 = .ok (.getfield 11, 3) := by decide +kernel
theorem dc_H_wakeJoiners_52 : decode cb_H_wakeJoiners 52 = .ok (.iload_n 3, 1) := by decide +kernel
theorem dc_H_wakeJoiners_53 : decode cb_H_wakeJoiners 53 = .ok (.aaload, 1) := by decide +kernel
theorem dc_H_wakeJoiners_54 : decode cb_H_wakeJoiners 54 = .ok (.iconst 1, 1) := by decide +kernel
theorem dc_H_wakeJoiners_55 : decode cb_H_wakeJoiners 55 = .ok (.putfield 106, 3) := by decide +kernel
theorem dc_H_wakeJoiners_58 : decode cb_H_wakeJoiners 58 = .ok (.iinc 2 (-1), 3) := by decide +kernel
theorem dc_H_wakeJoiners_61 : decode cb_H_wakeJoiners 61 = .ok (.goto (-53), 3) := by decide +kernel
theorem dc_H_wakeJoiners_64 : decode cb_H_wakeJoiners 64 = .ok (.return_, 1) := by decide +kernel
theorem dc_H_finish_0 : decode cb_H_finish 0 = .ok (.aload_n 0, 1) := by decide +kernel
theorem dc_H_finish_1 : decode cb_H_finish 1 = .ok (.aload_n 1, 1) := by decide +kernel
theorem dc_H_finish_2 : decode cb_H_finish 2 = .ok (.invokevirtual 301, 3) := by decide +kernel
theorem dc_H_finish_5 : decode cb_H_finish 5 = .ok (.aload_n 1, 1) := by decide +kernel
theorem dc_H_finish_6 : decode cb_H_finish 6 = .ok (.invokevirtual 304, 3) := by decide +kernel
theorem dc_H_finish_9 : decode cb_H_finish 9 = .ok (.aload_n 1, 1) := by decide +kernel
theorem dc_H_finish_10 : decode cb_H_finish 10 = .ok (.iload_n 2, 1) := by decide +kernel
theorem dc_H_finish_11 : decode cb_H_finish 11 = .ok (.putfield 112, 3) := by decide +kernel
theorem dc_H_finish_14 : decode cb_H_finish 14 = .ok (.aload_n 1, 1) := by decide +kernel
theorem dc_H_finish_15 : decode cb_H_finish 15 = .ok (.iconst 5, 1) := by decide +kernel
theorem dc_H_finish_16 : decode cb_H_finish 16 = .ok (.putfield 106, 3) := by decide +kernel
theorem dc_H_finish_19 : decode cb_H_finish 19 = .ok (.aload_n 0, 1) := by decide +kernel
theorem dc_H_finish_20 : decode cb_H_finish 20 = .ok (.dup, 1) := by decide +kernel
theorem dc_H_finish_21 : decode cb_H_finish 21 = .ok (.getfield 170, 3) := by decide +kernel
theorem dc_H_finish_24 : decode cb_H_finish 24 = .ok (.iconst 1, 1) := by decide +kernel
theorem dc_H_finish_25 : decode cb_H_finish 25 = .ok (.iadd, 1) := by decide +kernel
theorem dc_H_finish_26 : decode cb_H_finish 26 = .ok (.putfield 170, 3) := by decide +kernel
theorem dc_H_finish_29 : decode cb_H_finish 29 = .ok (.iconst 0, 1) := by decide +kernel
theorem dc_H_finish_30 : decode cb_H_finish 30 = .ok (.istore_n 3, 1) := by decide +kernel
theorem dc_H_finish_31 : decode cb_H_finish 31 = .ok (.iload_n 3, 1) := by decide +kernel
theorem dc_H_finish_32 : decode cb_H_finish 32 = .ok (.iconst 3, 1) := by decide +kernel
theorem dc_H_finish_33 : decode cb_H_finish 33 = .ok (.if_icmp .ge 35, 3) := by decide +kernel
theorem dc_H_finish_36 : decode cb_H_finish 36 = .ok (.aload_n 0, 1) := by decide +kernel
theorem dc_H_finish_37 : decode cb_H_finish 37 = .ok (.getfield 20, 3) := by decide +kernel
theorem dc_H_finish_40 : decode cb_H_finish 40 = .ok (.iload_n 3, 1) := by decide +kernel
theorem dc_H_finish_41 : decode cb_H_finish 41 = .ok (.aaload, 1) := by decide +kernel
theorem dc_H_finish_42 : decode cb_H_finish 42 = .ok (.getfield 146, 3) := by decide +kernel
theorem dc_H_finish_45 : decode cb_H_finish 45 = .ok (.aload_n 1, 1) := by decide +kernel
theorem dc_H_finish_46 : decode cb_H_finish 46 = .ok (.getfield 176, 3) := by decide +kernel
theorem dc_H_finish_49 : decode cb_H_finish 49 = .ok (.if_icmp .ne 13, 3) := by decide +kernel
theorem dc_H_finish_52 : decode cb_H_finish 52 = .ok (.aload_n 0, 1) := by decide +kernel
theorem dc_H_finish_53 : decode cb_H_finish 53 = .ok (.aload_n 0, 1) := by decide +kernel
theorem dc_H_finish_54 : decode cb_H_finish 54 = .ok (.getfield 20, 3) := by decide +kernel
theorem dc_H_finish_57 : decode cb_H_finish 57 = .ok (.iload_n 3, 1) := by decide +kernel
theorem dc_H_finish_58 : decode cb_H_finish 58 = .ok (.aaload, 1) := by decide +kernel
theorem dc_H_finish_59 : decode cb_H_finish 59 = .ok (.invokevirtual 278, 3) := by decide +kernel
theorem dc_H_finish_62 : decode cb_H_finish 62 = .ok (.iinc 3 1, 3) := by decide +kernel
theorem dc_H_finish_65 : decode cb_H_finish 65 = .ok (.goto (-34), 3) := by decide +kernel
theorem dc_H_finish_68 : decode cb_H_finish 68 = .ok (.aload_n 0, 1) := by decide +kernel
theorem dc_H_finish_69 : decode cb_H_finish 69 = .ok (.aload_n 1, 1) := by decide +kernel
theorem dc_H_finish_70 : decode cb_H_finish 70 = .ok (.invokevirtual 307, 3) := by decide +kernel
theorem dc_H_finish_73 : decode cb_H_finish 73 = .ok (.return_, 1) := by decide +kernel
theorem dc_H_raise_0 : decode cb_H_raise 0 = .ok (.aload_n 0, 1) := by decide +kernel
theorem dc_H_raise_1 : decode cb_H_raise 1 = .ok (.dup, 1) := by decide +kernel
theorem dc_H_raise_2 : decode cb_H_raise 2 = .ok (.getfield 167, 3) := by decide +kernel
theorem dc_H_raise_5 : decode cb_H_raise 5 = .ok (.iconst 1, 1) := by decide +kernel
theorem dc_H_raise_6 : decode cb_H_raise 6 = .ok (.iadd, 1) := by decide +kernel
theorem dc_H_raise_7 : decode cb_H_raise 7 = .ok (.putfield 167, 3) := by decide +kernel
theorem dc_H_raise_10 : decode cb_H_raise 10 = .ok (.iload_n 2, 1) := by decide +kernel
theorem dc_H_raise_11 : decode cb_H_raise 11 = .ok (.bipush 7, 2) := by decide +kernel
theorem dc_H_raise_13 : decode cb_H_raise 13 = .ok (.if_icmp .ne 7, 3) := by decide +kernel
theorem dc_H_raise_16 : decode cb_H_raise 16 = .ok (.aload_n 1, 1) := by decide +kernel
theorem dc_H_raise_17 : decode cb_H_raise 17 = .ok (.invokevirtual 298, 3) := by decide +kernel
theorem dc_H_raise_20 : decode cb_H_raise 20 = .ok (.aload_n 1, 1) := by decide +kernel
theorem dc_H_raise_21 : decode cb_H_raise 21 = .ok (.getfield 129, 3) := by decide +kernel
theorem dc_H_raise_24 : decode cb_H_raise 24 = .ok (.bipush 24, 2) := by decide +kernel
theorem dc_H_raise_26 : decode cb_H_raise 26 = .ok (.if_icmp .ne 11, 3) := by decide +kernel
theorem dc_H_raise_29 : decode cb_H_raise 29 = .ok (.aload_n 0, 1) := by decide +kernel
theorem dc_H_raise_30 : decode cb_H_raise 30 = .ok (.aload_n 1, 1) := by decide +kernel
theorem dc_H_raise_31 : decode cb_H_raise 31 = .ok (.iload_n 2, 1) := by decide +kernel
theorem dc_H_raise_32 : decode cb_H_raise 32 = .ok (.ineg, 1) := by decide +kernel
theorem dc_H_raise_33 : decode cb_H_raise 33 = .ok (.invokevirtual 186, 3) := by decide +kernel
theorem dc_H_raise_36 : decode cb_H_raise 36 = .ok (.return_, 1) := by decide +kernel
theorem dc_H_raise_37 : decode cb_H_raise 37 = .ok (.aload_n 1, 1) := by decide +kernel
theorem dc_H_raise_38 : decode cb_H_raise 38 = .ok (.aload_n 1, 1) := by decide +kernel
theorem dc_H_raise_39 : decode cb_H_raise 39 = .ok (.getfield 129, 3) := by decide +kernel
theorem dc_H_raise_42 : decode cb_H_raise 42 = .ok (.putfield 109, 3) := by decide +kernel
theorem dc_H_raise_45 : decode cb_H_raise 45 = .ok (.aload_n 1, 1) := by decide +kernel
theorem dc_H_raise_46 : decode cb_H_raise 46 = .ok (.bipush 24, 2) := by decide +kernel
theorem dc_H_raise_48 : decode cb_H_raise 48 = .ok (.putfield 129, 3) := by decide +kernel
theorem dc_H_raise_51 : decode cb_H_raise 51 = .ok (.aload_n 0, 1) := by decide +kernel
theorem dc_H_raise_52 : decode cb_H_raise 52 = .ok (.aload_n 1, 1) := by decide +kernel
theorem dc_H_raise_53 : decode cb_H_raise 53 = .ok (.iconst 3, 1) := by decide +kernel
theorem dc_H_raise_54 : decode cb_H_raise 54 = .ok (.iload_n 2, 1) := by decide +kernel
theorem dc_H_raise_55 : decode cb_H_raise 55 = .ok (.invokevirtual 205, 3) := by decide +kernel
theorem dc_H_raise_58 : decode cb_H_raise 58 = .ok (.return_, 1) := by decide +kernel
theorem dc_H_perform_0 : decode cb_H_perform 0 = .ok (.iload_n 2, 1) := by decide +kernel
theorem dc_H_perform_1 : decode cb_H_perform 1 = .ok (.tableswitch 311 0 19 #[95, 106, 124, 140, 148, 154, 164, 171, 182, 191, 204, 217, 227, 236, 249, 257, 265, 273, 284, 297], 95) := by decide +kernel
theorem dc_H_perform_96 : decode cb_H_perform 96 = .ok (.aload_n 0, 1) := by decide +kernel
theorem dc_H_perform_97 : decode cb_H_perform 97 = .ok (.aload_n 1, 1) := by decide +kernel
theorem dc_H_perform_98 : decode cb_H_perform 98 = .ok (.iload_n 3, 1) := by decide +kernel
theorem dc_H_perform_99 : decode cb_H_perform 99 = .ok (.iload 4, 2) := by decide +kernel
theorem dc_H_perform_101 : decode cb_H_perform 101 = .ok (.invokevirtual 205, 3) := by decide +kernel
theorem dc_H_perform_104 : decode cb_H_perform 104 = .ok (.goto 208, 3) := by decide +kernel
theorem dc_H_perform_107 : decode cb_H_perform 107 = .ok (.aload_n 0, 1) := by decide +kernel
theorem dc_H_perform_108 : decode cb_H_perform 108 = .ok (.aload_n 1, 1) := by decide +kernel
theorem dc_H_perform_109 : decode cb_H_perform 109 = .ok (.iload_n 3, 1) := by decide +kernel
theorem dc_H_perform_110 : decode cb_H_perform 110 = .ok (.aload_n 0, 1) := by decide +kernel
theorem dc_H_perform_111 : decode cb_H_perform 111 = .ok (.aload_n 1, 1) := by decide +kernel
theorem dc_H_perform_112 : decode cb_H_perform 112 = .ok (.iload_n 3, 1) := by decide +kernel
theorem dc_H_perform_113 : decode cb_H_perform 113 = .ok (.invokevirtual 102, 3) := by decide +kernel
theorem dc_H_perform_116 : decode cb_H_perform 116 = .ok (.iload 4, 2) := by decide +kernel
theorem dc_H_perform_118 : decode cb_H_perform 118 = .ok (.iadd, 1) := by decide +kernel
theorem dc_H_perform_119 : decode cb_H_perform 119 = .ok (.invokevirtual 205, 3) := by decide +kernel
theorem dc_H_perform_122 : decode cb_H_perform 122 = .ok (.goto 190, 3) := by decide +kernel
theorem dc_H_perform_125 : decode cb_H_perform 125 = .ok (.aload_n 0, 1) := by decide +kernel
theorem dc_H_perform_126 : decode cb_H_perform 126 = .ok (.aload_n 1, 1) := by decide +kernel
theorem dc_H_perform_127 : decode cb_H_perform 127 = .ok (.iload_n 3, 1) := by decide +kernel
theorem dc_H_perform_128 : decode cb_H_perform 128 = .ok (.aload_n 0, 1) := by decide +kernel
theorem dc_H_perform_129 : decode cb_H_perform 129 = .ok (.aload_n 1, 1) := by decide +kernel
theorem dc_H_perform_130 : decode cb_H_perform 130 = .ok (.iload 4, 2) := by decide +kernel
theorem dc_H_perform_132 : decode cb_H_perform 132 = .ok (.invokevirtual 102, 3) := by decide +kernel
theorem dc_H_perform_135 : decode cb_H_perform 135 = .ok (.invokevirtual 205, 3) := by decide +kernel
theorem dc_H_perform_138 : decode cb_H_perform 138 = .ok (.goto 174, 3) := by decide +kernel
theorem dc_H_perform_141 : decode cb_H_perform 141 = .ok (.aload_n 1, 1) := by decide +kernel
theorem dc_H_perform_142 : decode cb_H_perform 142 = .ok (.iload_n 3, 1) := by decide +kernel
theorem dc_H_perform_143 : decode cb_H_perform 143 = .ok (.iload 4, 2) := by decide +kernel
theorem dc_H_perform_145 : decode cb_H_perform 145 = .ok (.invokestatic 209, 3) := by decide +kernel
theorem dc_H_perform_148 : decode cb_H_perform 148 = .ok (.ireturn, 1) := by decide +kernel
theorem dc_H_perform_149 : decode cb_H_perform 149 = .ok (.aload_n 1, 1) := by decide +kernel
theorem dc_H_perform_150 : decode cb_H_perform 150 = .ok (.iload_n 3, 1) := by decide +kernel
theorem dc_H_perform_151 : decode cb_H_perform 151 = .ok (.invokestatic 213, 3) := by decide +kernel
theorem dc_H_perform_154 : decode cb_H_perform 154 = .ok (.ireturn, 1) := by decide +kernel
theorem dc_H_perform_155 : decode cb_H_perform 155 = .ok (.aload_n 0, 1) := by decide +kernel
theorem dc_H_perform_156 : decode cb_H_perform 156 = .ok (.aload_n 1, 1) := by decide +kernel
theorem dc_H_perform_157 : decode cb_H_perform 157 = .ok (.iload_n 3, 1) := by decide +kernel
theorem dc_H_perform_158 : decode cb_H_perform 158 = .ok (.iconst 1, 1) := by decide +kernel
theorem dc_H_perform_159 : decode cb_H_perform 159 = .ok (.invokevirtual 216, 3) := by decide +kernel
theorem dc_H_perform_162 : decode cb_H_perform 162 = .ok (.goto 150, 3) := by decide +kernel
theorem dc_H_perform_165 : decode cb_H_perform 165 = .ok (.aload_n 0, 1) := by decide +kernel
theorem dc_H_perform_166 : decode cb_H_perform 166 = .ok (.aload_n 1, 1) := by decide +kernel
theorem dc_H_perform_167 : decode cb_H_perform 167 = .ok (.iload_n 3, 1) := by decide +kernel
theorem dc_H_perform_168 : decode cb_H_perform 168 = .ok (.invokevirtual 219, 3) := by decide +kernel
theorem dc_H_perform_171 : decode cb_H_perform 171 = .ok (.ireturn, 1) := by decide +kernel
theorem dc_H_perform_172 : decode cb_H_perform 172 = .ok (.aload_n 0, 1) := by decide +kernel
theorem dc_H_perform_173 : decode cb_H_perform 173 = .ok (.aload_n 1, 1) := by decide +kernel
theorem dc_H_perform_174 : decode cb_H_perform 174 = .ok (.iload_n 3, 1) := by decide +kernel
theorem dc_H_perform_175 : decode cb_H_perform 175 = .ok (.iload 4, 2) := by decide +kernel
theorem dc_H_perform_177 : decode cb_H_perform 177 = .ok (.invokevirtual 222, 3) := by decide +kernel
theorem dc_H_perform_180 : decode cb_H_perform 180 = .ok (.goto 132, 3) := by decide +kernel
theorem dc_H_perform_183 : decode cb_H_perform 183 = .ok (.aload_n 0, 1) := by decide +kernel
theorem dc_H_perform_184 : decode cb_H_perform 184 = .ok (.aload_n 1, 1) := by decide +kernel
theorem dc_H_perform_185 : decode cb_H_perform 185 = .ok (.iload_n 3, 1) := by decide +kernel
theorem dc_H_perform_186 : decode cb_H_perform 186 = .ok (.iload 4, 2) := by decide +kernel
theorem dc_H_perform_188 : decode cb_H_perform 188 = .ok (.invokevirtual 225, 3) := by decide +kernel
theorem dc_H_perform_191 : decode cb_H_perform 191 = .ok (.ireturn, 1) := by decide +kernel
theorem dc_H_perform_192 : decode cb_H_perform 192 = .ok (.aload_n 0, 1) := by decide +kernel
theorem dc_H_perform_193 : decode cb_H_perform 193 = .ok (.aload_n 0, 1) := by decide +kernel
theorem dc_H_perform_194 : decode cb_H_perform 194 = .ok (.getfield 27, 3) := by decide +kernel
theorem dc_H_perform_197 : decode cb_H_perform 197 = .ok (.iload_n 3, 1) := by decide +kernel
theorem dc_H_perform_198 : decode cb_H_perform 198 = .ok (.aaload, 1) := by decide +kernel
theorem dc_H_perform_199 : decode cb_H_perform 199 = .ok (.invokevirtual 228, 3) := by decide +kernel
theorem dc_H_perform_202 : decode cb_H_perform 202 = .ok (.goto 110, 3) := by decide +kernel
theorem dc_H_perform_205 : decode cb_H_perform 205 = .ok (.aload_n 0, 1) := by decide +kernel
theorem dc_H_perform_206 : decode cb_H_perform 206 = .ok (.aload_n 0, 1) := by decide +kernel
theorem dc_H_perform_207 : decode cb_H_perform 207 = .ok (.getfield 27, 3) := by decide +kernel
theorem dc_H_perform_210 : decode cb_H_perform 210 = .ok (.iload_n 3, 1) := by decide +kernel
theorem dc_H_perform_211 : decode cb_H_perform 211 = .ok (.aaload, 1) := by decide +kernel
theorem dc_H_perform_212 : decode cb_H_perform 212 = .ok (.invokevirtual 232, 3) := by decide +kernel
theorem dc_H_perform_215 : decode cb_H_perform 215 = .ok (.goto 97, 3) := by decide +kernel
theorem dc_H_perform_218 : decode cb_H_perform 218 = .ok (.aload_n 0, 1) := by decide +kernel
theorem dc_H_perform_219 : decode cb_H_perform 219 = .ok (.getfield 11, 3) := by decide +kernel
theorem dc_H_perform_222 : decode cb_H_perform 222 = .ok (.iload_n 3, 1) := by decide +kernel
theorem dc_H_perform_223 : decode cb_H_perform 223 = .ok (.aaload, 1) := by decide +kernel
theorem dc_H_perform_224 : decode cb_H_perform 224 = .ok (.invokestatic 235, 3) := by decide +kernel
theorem dc_H_perform_227 : decode cb_H_perform 227 = .ok (.ireturn, 1) := by decide +kernel
theorem dc_H_perform_228 : decode cb_H_perform 228 = .ok (.aload_n 0, 1) := by decide +kernel
theorem dc_H_perform_229 : decode cb_H_perform 229 = .ok (.aload_n 1, 1) := by decide +kernel
theorem dc_H_perform_230 : decode cb_H_perform 230 = .ok (.iload_n 3, 1) := by decide +kernel
theorem dc_H_perform_231 : decode cb_H_perform 231 = .ok (.iload 4, 2) := by decide +kernel
theorem dc_H_perform_233 : decode cb_H_perform 233 = .ok (.invokevirtual 239, 3) := by decide +kernel
theorem dc_H_perform_236 : decode cb_H_perform 236 = .ok (.ireturn, 1) := by decide +kernel
theorem dc_H_perform_237 : decode cb_H_perform 237 = .ok (.aload_n 0, 1) := by decide +kernel
theorem dc_H_perform_238 : decode cb_H_perform 238 = .ok (.aload_n 0, 1) := by decide +kernel
theorem dc_H_perform_239 : decode cb_H_perform 239 = .ok (.getfield 11, 3) := by decide +kernel
theorem dc_H_perform_242 : decode cb_H_perform 242 = .ok (.iload_n 3, 1) := by decide +kernel
theorem dc_H_perform_243 : decode cb_H_perform 243 = .ok (.aaload, 1) := by decide +kernel
theorem dc_H_perform_244 : decode cb_H_perform 244 = .ok (.invokevirtual 99, 3) := by decide +kernel
theorem dc_H_perform_247 : decode cb_H_perform 247 = .ok (.goto 65, 3) := by decide +kernel
theorem dc_H_perform_250 : decode cb_H_perform 250 = .ok (.aload_n 1, 1) := by decide +kernel
theorem dc_H_perform_251 : decode cb_H_perform 251 = .ok (.iload_n 3, 1) := by decide +kernel
theorem dc_H_perform_252 : decode cb_H_perform 252 = .ok (.putfield 129, 3) := by decide +kernel
theorem dc_H_perform_255 : decode cb_H_perform 255 = .ok (.goto 57, 3) := by decide +kernel
theorem dc_H_perform_258 : decode cb_H_perform 258 = .ok (.aload_n 1, 1) := by decide +kernel
theorem dc_H_perform_259 : decode cb_H_perform 259 = .ok (.iload_n 3, 1) := by decide +kernel
theorem dc_H_perform_260 : decode cb_H_perform 260 = .ok (.iload 4, 2) := by decide +kernel
theorem dc_H_perform_262 : decode cb_H_perform 262 = .ok (.invokestatic 242, 3) := by decide +kernel
theorem dc_H_perform_265 : decode cb_H_perform 265 = .ok (.ireturn, 1) := by decide +kernel
theorem dc_H_perform_266 : decode cb_H_perform 266 = .ok (.aload_n 1, 1) := by decide +kernel
theorem dc_H_perform_267 : decode cb_H_perform 267 = .ok (.iload_n 3, 1) := by decide +kernel
theorem dc_H_perform_268 : decode cb_H_perform 268 = .ok (.putfield 109, 3) := by decide +kernel
theorem dc_H_perform_271 : decode cb_H_perform 271 = .ok (.goto 41, 3) := by decide +kernel
theorem dc_H_perform_274 : decode cb_H_perform 274 = .ok (.aload_n 0, 1) := by decide +kernel
theorem dc_H_perform_275 : decode cb_H_perform 275 = .ok (.aload_n 1, 1) := by decide +kernel
theorem dc_H_perform_276 : decode cb_H_perform 276 = .ok (.iload_n 3, 1) := by decide +kernel
theorem dc_H_perform_277 : decode cb_H_perform 277 = .ok (.iload 4, 2) := by decide +kernel
theorem dc_H_perform_279 : decode cb_H_perform 279 = .ok (.invokevirtual 245, 3) := by decide +kernel
theorem dc_H_perform_282 : decode cb_H_perform 282 = .ok (.goto 30, 3) := by decide +kernel
theorem dc_H_perform_285 : decode cb_H_perform 285 = .ok (.aload_n 0, 1) := by decide +kernel
theorem dc_H_perform_286 : decode cb_H_perform 286 = .ok (.aload_n 0, 1) := by decide +kernel
theorem dc_H_perform_287 : decode cb_H_perform 287 = .ok (.aload_n 1, 1) := by decide +kernel
theorem dc_H_perform_288 : decode cb_H_perform 288 = .ok (.iload_n 3, 1) := by decide +kernel
theorem dc_H_perform_289 : decode cb_H_perform 289 = .ok (.invokevirtual 102, 3) := by decide +kernel
theorem dc_H_perform_292 : decode cb_H_perform 292 = .ok (.invokevirtual 248, 3) := by decide +kernel
theorem dc_H_perform_295 : decode cb_H_perform 295 = .ok (.goto 17, 3) := by decide +kernel
theorem dc_H_perform_298 : decode cb_H_perform 298 = .ok (.aload_n 0, 1) := by decide +kernel
theorem dc_H_perform_299 : decode cb_H_perform 299 = .ok (.aload_n 1, 1) := by decide +kernel
theorem dc_H_perform_300 : decode cb_H_perform 300 = .ok (.aload_n 0, 1) := by decide +kernel
theorem dc_H_perform_301 : decode cb_H_perform 301 = .ok (.aload_n 1, 1) := by decide +kernel
theorem dc_H_perform_302 : decode cb_H_perform 302 = .ok (.iload_n 3, 1) := by decide +kernel
theorem dc_H_perform_303 : decode cb_H_perform 303 = .ok (.invokevirtual 102, 3) := by decide +kernel
theorem dc_H_perform_306 : decode cb_H_perform 306 = .ok (.invokevirtual 186, 3) := by decide +kernel
theorem dc_H_perform_309 : decode cb_H_perform 309 = .ok (.goto 3, 3) := by decide +kernel
theorem dc_H_perform_312 : decode cb_H_perform 312 = .ok (.iconst 0, 1) := by decide +kernel
theorem dc_H_perform_313 : decode cb_H_perform 313 = .ok (.ireturn, 1) := by decide +kernel
theorem dc_H_takeTurn_0 : decode cb_H_takeTurn 0 = .ok (.aload_n 0, 1) := by decide +kernel
theorem dc_H_takeTurn_1 : decode cb_H_takeTurn 1 = .ok (.aload_n 1, 1) := by decide +kernel
theorem dc_H_takeTurn_2 : decode cb_H_takeTurn 2 = .ok (.getfield 176, 3) := by decide +kernel
theorem dc_H_takeTurn_5 : decode cb_H_takeTurn 5 = .ok (.putfield 43, 3) := by decide +kernel
theorem dc_H_takeTurn_8 : decode cb_H_takeTurn 8 = .ok (.aload_n 0, 1) := by decide +kernel
theorem dc_H_takeTurn_9 : decode cb_H_takeTurn 9 = .ok (.dup, 1) := by decide +kernel
theorem dc_H_takeTurn_10 : decode cb_H_takeTurn 10 = .ok (.getfield 158, 3) := by decide +kernel
theorem dc_H_takeTurn_13 : decode cb_H_takeTurn 13 = .ok (.iconst 1, 1) := by decide +kernel
theorem dc_H_takeTurn_14 : decode cb_H_takeTurn 14 = .ok (.iadd, 1) := by decide +kernel
theorem dc_H_takeTurn_15 : decode cb_H_takeTurn 15 = .ok (.putfield 158, 3) := by decide +kernel
theorem dc_H_takeTurn_18 : decode cb_H_takeTurn 18 = .ok (.aload_n 1, 1) := by decide +kernel
theorem dc_H_takeTurn_19 : decode cb_H_takeTurn 19 = .ok (.getfield 179, 3) := by decide +kernel
theorem dc_H_takeTurn_22 : decode cb_H_takeTurn 22 = .ok (.ifCond .eq 10, 3) := by decide +kernel
theorem dc_H_takeTurn_25 : decode cb_H_takeTurn 25 = .ok (.aload_n 0, 1) := by decide +kernel
theorem dc_H_takeTurn_26 : decode cb_H_takeTurn 26 = .ok (.aload_n 1, 1) := by decide +kernel
theorem dc_H_takeTurn_27 : decode cb_H_takeTurn 27 = .ok (.bipush 7, 2) := by decide +kernel
theorem dc_H_takeTurn_29 : decode cb_H_takeTurn 29 = .ok (.invokevirtual 182, 3) := by decide +kernel
theorem dc_H_takeTurn_32 : decode cb_H_takeTurn 32 = .ok (.aload_n 1, 1) := by decide +kernel
theorem dc_H_takeTurn_33 : decode cb_H_takeTurn 33 = .ok (.getfield 63, 3) := by decide +kernel
theorem dc_H_takeTurn_36 : decode cb_H_takeTurn 36 = .ok (.astore_n 2, 1) := by decide +kernel
theorem dc_H_takeTurn_37 : decode cb_H_takeTurn 37 = .ok (.iconst 0, 1) := by decide +kernel
theorem dc_H_takeTurn_38 : decode cb_H_takeTurn 38 = .ok (.istore_n 3, 1) := by decide +kernel
theorem dc_H_takeTurn_39 : decode cb_H_takeTurn 39 = .ok (.iload_n 3, 1) := by decide +kernel
theorem dc_H_takeTurn_40 : decode cb_H_takeTurn 40 = .ok (.aload_n 0, 1) := by decide +kernel
theorem dc_H_takeTurn_41 : decode cb_H_takeTurn 41 = .ok (.getfield 39, 3) := by decide +kernel
theorem dc_H_takeTurn_44 : decode cb_H_takeTurn 44 = .ok (.if_icmp .ge 98, 3) := by decide +kernel
theorem dc_H_takeTurn_47 : decode cb_H_takeTurn 47 = .ok (.aload_n 1, 1) := by decide +kernel
theorem dc_H_takeTurn_48 : decode cb_H_takeTurn 48 = .ok (.getfield 106, 3) := by decide +kernel
theorem dc_H_takeTurn_51 : decode cb_H_takeTurn 51 = .ok (.iconst 1, 1) := by decide +kernel
theorem dc_H_takeTurn_52 : decode cb_H_takeTurn 52 = .ok (.if_icmp .eq 4, 3) := by decide +kernel
theorem dc_H_takeTurn_55 : decode cb_H_takeTurn 55 = .ok (.return_, 1) := by decide +kernel
theorem dc_H_takeTurn_56 : decode cb_H_takeTurn 56 = .ok (.aload_n 1, 1) := by decide +kernel
theorem dc_H_takeTurn_57 : decode cb_H_takeTurn 57 = .ok (.getfield 109, 3) := by decide +kernel
theorem dc_H_takeTurn_60 : decode cb_H_takeTurn 60 = .ok (.istore 4, 2) := by decide +kernel
theorem dc_H_takeTurn_62 : decode cb_H_takeTurn 62 = .ok (.iload 4, 2) := by decide +kernel
theorem dc_H_takeTurn_64 : decode cb_H_takeTurn 64 = .ok (.aload_n 2, 1) := by decide +kernel
theorem dc_H_takeTurn_65 : decode cb_H_takeTurn 65 = .ok (.getfield 67, 3) := by decide +kernel
theorem dc_H_takeTurn_68 : decode cb_H_takeTurn 68 = .ok (.if_icmp .lt 10, 3) := by decide +kernel
theorem dc_H_takeTurn_71 : decode cb_H_takeTurn 71 = .ok (.aload_n 0, 1) := by decide +kernel
theorem dc_H_takeTurn_72 : decode cb_H_takeTurn 72 = .ok (.aload_n 1, 1) := by decide +kernel
theorem dc_H_takeTurn_73 : decode cb_H_takeTurn 73 = .ok (.iconst 0, 1) := by decide +kernel
theorem dc_H_takeTurn_74 : decode cb_H_takeTurn 74 = .ok (.invokevirtual 186, 3) := by decide +kernel
theorem dc_H_takeTurn_77 : decode cb_H_takeTurn 77 = .ok (.return_, 1) := by decide +kernel
theorem dc_H_takeTurn_78 : decode cb_H_takeTurn 78 = .ok (.aload_n 0, 1) := by decide +kernel
theorem dc_H_takeTurn_79 : decode cb_H_takeTurn 79 = .ok (.aload_n 1, 1) := by decide +kernel
theorem dc_H_takeTurn_80 : decode cb_H_takeTurn 80 = .ok (.invokevirtual 189, 3) := by decide +kernel
theorem dc_H_takeTurn_83 : decode cb_H_takeTurn 83 = .ok (.aload_n 0, 1) := by decide +kernel
theorem dc_H_takeTurn_84 : decode cb_H_takeTurn 84 = .ok (.aload_n 1, 1) := by decide +kernel
theorem dc_H_takeTurn_85 : decode cb_H_takeTurn 85 = .ok (.aload_n 2, 1) := by decide +kernel
theorem dc_H_takeTurn_86 : decode cb_H_takeTurn 86 = .ok (.getfield 192, 3) := by decide +kernel
theorem dc_H_takeTurn_89 : decode cb_H_takeTurn 89 = .ok (.iload 4, 2) := by decide +kernel
theorem dc_H_takeTurn_91 : decode cb_H_takeTurn 91 = .ok (.iaload, 1) := by decide +kernel
theorem dc_H_takeTurn_92 : decode cb_H_takeTurn 92 = .ok (.aload_n 2, 1) := by decide +kernel
theorem dc_H_takeTurn_93 : decode cb_H_takeTurn 93 = .ok (.getfield 195, 3) := by decide +kernel
theorem dc_H_takeTurn_96 : decode cb_H_takeTurn 96 = .ok (.iload 4, 2) := by decide +kernel
theorem dc_H_takeTurn_98 : decode cb_H_takeTurn 98 = .ok (.iaload, 1) := by decide +kernel
theorem dc_H_takeTurn_99 : decode cb_H_takeTurn 99 = .ok (.aload_n 2, 1) := by decide +kernel
theorem dc_H_takeTurn_100 : decode cb_H_takeTurn 100 = .ok (.getfield 198, 3) := by decide +kernel
theorem dc_H_takeTurn_103 : decode cb_H_takeTurn 103 = .ok (.iload 4, 2) := by decide +kernel
theorem dc_H_takeTurn_105 : decode cb_H_takeTurn 105 = .ok (.iaload, 1) := by decide +kernel
theorem dc_H_takeTurn_106 : decode cb_H_takeTurn 106 = .ok (.invokevirtual 201, 3) := by decide +kernel
theorem dc_H_takeTurn_109 : decode cb_H_takeTurn 109 = .ok (.istore 5, 2) := by decide +kernel
theorem dc_H_takeTurn_111 : decode cb_H_takeTurn 111 = .ok (.iload 5, 2) := by decide +kernel
theorem dc_H_takeTurn_113 : decode cb_H_takeTurn 113 = .ok (.ifCond .eq 10, 3) := by decide +kernel
theorem dc_H_takeTurn_116 : decode cb_H_takeTurn 116 = .ok (.aload_n 0, 1) := by decide +kernel
theorem dc_H_takeTurn_117 : decode cb_H_takeTurn 117 = .ok (.aload_n 1, 1) := by decide +kernel
theorem dc_H_takeTurn_118 : decode cb_H_takeTurn 118 = .ok (.iload 5, 2) := by decide +kernel
theorem dc_H_takeTurn_120 : decode cb_H_takeTurn 120 = .ok (.invokevirtual 182, 3) := by decide +kernel
theorem dc_H_takeTurn_123 : decode cb_H_takeTurn 123 = .ok (.aload_n 2, 1) := by decide +kernel
theorem dc_H_takeTurn_124 : decode cb_H_takeTurn 124 = .ok (.getfield 192, 3) := by decide +kernel
theorem dc_H_takeTurn_127 : decode cb_H_takeTurn 127 = .ok (.iload 4, 2) := by decide +kernel
theorem dc_H_takeTurn_129 : decode cb_H_takeTurn 129 = .ok (.iaload, 1) := by decide +kernel
theorem dc_H_takeTurn_130 : decode cb_H_takeTurn 130 = .ok (.bipush 20, 2) := by decide +kernel
theorem dc_H_takeTurn_132 : decode cb_H_takeTurn 132 = .ok (.if_icmp .ne 4, 3) := by decide +kernel
theorem dc_H_takeTurn_135 : decode cb_H_takeTurn 135 = .ok (.return_, 1) := by decide +kernel
theorem dc_H_takeTurn_136 : decode cb_H_takeTurn 136 = .ok (.iinc 3 1, 3) := by decide +kernel
theorem dc_H_takeTurn_139 : decode cb_H_takeTurn 139 = .ok (.goto (-100), 3) := by decide +kernel
theorem dc_H_takeTurn_142 : decode cb_H_takeTurn 142 = .ok (.return_, 1) := by decide +kernel
theorem dc_H_run_0 : decode cb_H_run 0 = .ok (.iload_n 1, 1) := by decide +kernel
theorem dc_H_run_1 : decode cb_H_run 1 = .ok (.iconst 1, 1) := by decide +kernel
theorem dc_H_run_2 : decode cb_H_run 2 = .ok (.bipush 40, 2) := by decide +kernel
theorem dc_H_run_4 : decode cb_H_run 4 = .ok (.invokestatic 86, 3) := by decide +kernel
theorem dc_H_run_7 : decode cb_H_run 7 = .ok (.aload_n 0, 1) := by decide +kernel
theorem dc_H_run_8 : decode cb_H_run 8 = .ok (.getfield 89, 3) := by decide +kernel
theorem dc_H_run_11 : decode cb_H_run 11 = .ok (.istore_n 2, 1) := by decide +kernel
theorem dc_H_run_12 : decode cb_H_run 12 = .ok (.iconst 0, 1) := by decide +kernel
theorem dc_H_run_13 : decode cb_H_run 13 = .ok (.istore_n 3, 1) := by decide +kernel
theorem dc_H_run_14 : decode cb_H_run 14 = .ok (.iload_n 3, 1) := by decide +kernel
theorem dc_H_run_15 : decode cb_H_run 15 = .ok (.iload_n 1, 1) := by decide +kernel
theorem dc_H_run_16 : decode cb_H_run 16 = .ok (.if_icmp .ge 35, 3) := by decide +kernel
theorem dc_H_run_19 : decode cb_H_run 19 = .ok (.aload_n 0, 1) := by decide +kernel
theorem dc_H_run_20 : decode cb_H_run 20 = .ok (.invokevirtual 92, 3) := by decide +kernel
theorem dc_H_run_23 : decode cb_H_run 23 = .ok (.istore 4, 2) := by decide +kernel
theorem dc_H_run_25 : decode cb_H_run 25 = .ok (.iload 4, 2) := by decide +kernel
theorem dc_H_run_27 : decode cb_H_run 27 = .ok (.iconst (-1), 1) := by decide +kernel
theorem dc_H_run_28 : decode cb_H_run 28 = .ok (.if_icmp .ne 6, 3) := by decide +kernel
theorem dc_H_run_31 : decode cb_H_run 31 = .ok (.goto 20, 3) := by decide +kernel
theorem dc_H_run_34 : decode cb_H_run 34 = .ok (.aload_n 0, 1) := by decide +kernel
theorem dc_H_run_35 : decode cb_H_run 35 = .ok (.aload_n 0, 1) := by decide +kernel
theorem dc_H_run_36 : decode cb_H_run 36 = .ok (.getfield 11, 3) := by decide +kernel
theorem dc_H_run_39 : decode cb_H_run 39 = .ok (.iload 4, 2) := by decide +kernel
theorem dc_H_run_41 : decode cb_H_run 41 = .ok (.aaload, 1) := by decide +kernel
theorem dc_H_run_42 : decode cb_H_run 42 = .ok (.invokevirtual 96, 3) := by decide +kernel
theorem dc_H_run_45 : decode cb_H_run 45 = .ok (.iinc 3 1, 3) := by decide +kernel
theorem dc_H_run_48 : decode cb_H_run 48 = .ok (.goto (-34), 3) := by decide +kernel
theorem dc_H_run_51 : decode cb_H_run 51 = .ok (.aload_n 0, 1) := by decide +kernel
theorem dc_H_run_52 : decode cb_H_run 52 = .ok (.getfield 89, 3) := by decide +kernel
theorem dc_H_run_55 : decode cb_H_run 55 = .ok (.iload_n 2, 1) := by decide +kernel
theorem dc_H_run_56 : decode cb_H_run 56 = .ok (.isub, 1) := by decide +kernel
theorem dc_H_run_57 : decode cb_H_run 57 = .ok (.ireturn, 1) := by decide +kernel
theorem dc_H_slice_0 : decode cb_H_slice 0 = .ok (.iload_n 1, 1) := by decide +kernel
theorem dc_H_slice_1 : decode cb_H_slice 1 = .ok (.iconst 1, 1) := by decide +kernel
theorem dc_H_slice_2 : decode cb_H_slice 2 = .ok (.bipush 20, 2) := by decide +kernel
theorem dc_H_slice_4 : decode cb_H_slice 4 = .ok (.invokestatic 86, 3) := by decide +kernel
theorem dc_H_slice_7 : decode cb_H_slice 7 = .ok (.aload_n 0, 1) := by decide +kernel
theorem dc_H_slice_8 : decode cb_H_slice 8 = .ok (.getfield 39, 3) := by decide +kernel
theorem dc_H_slice_11 : decode cb_H_slice 11 = .ok (.istore_n 2, 1) := by decide +kernel
theorem dc_H_slice_12 : decode cb_H_slice 12 = .ok (.aload_n 0, 1) := by decide +kernel
theorem dc_H_slice_13 : decode cb_H_slice 13 = .ok (.iload_n 1, 1) := by decide +kernel
theorem dc_H_slice_14 : decode cb_H_slice 14 = .ok (.putfield 39, 3) := by decide +kernel
theorem dc_H_slice_17 : decode cb_H_slice 17 = .ok (.iload_n 2, 1) := by decide +kernel
theorem dc_H_slice_18 : decode cb_H_slice 18 = .ok (.ireturn, 1) := by decide +kernel
theorem dc_H_add_0 : decode cb_H_add 0 = .ok (.iload_n 1, 1) := by decide +kernel
theorem dc_H_add_1 : decode cb_H_add 1 = .ok (.iconst 5, 1) := by decide +kernel
theorem dc_H_add_2 : decode cb_H_add 2 = .ok (.invokestatic 46, 3) := by decide +kernel
theorem dc_H_add_5 : decode cb_H_add 5 = .ok (.iload_n 2, 1) := by decide +kernel
theorem dc_H_add_6 : decode cb_H_add 6 = .ok (.getstatic 50, 3) := by decide +kernel
theorem dc_H_add_9 : decode cb_H_add 9 = .ok (.arraylength, 1) := by decide +kernel
theorem dc_H_add_10 : decode cb_H_add 10 = .ok (.invokestatic 46, 3) := by decide +kernel
theorem dc_H_add_13 : decode cb_H_add 13 = .ok (.iload_n 3, 1) := by decide +kernel
theorem dc_H_add_14 : decode cb_H_add 14 = .ok (.getstatic 50, 3) := by decide +kernel
theorem dc_H_add_17 : decode cb_H_add 17 = .ok (.iload_n 2, 1) := by decide +kernel
theorem dc_H_add_18 : decode cb_H_add 18 = .ok (.iaload, 1) := by decide +kernel
theorem dc_H_add_19 : decode cb_H_add 19 = .ok (.invokestatic 53, 3) := by decide +kernel
theorem dc_H_add_22 : decode cb_H_add 22 = .ok (.iload 4, 2) := by decide +kernel
theorem dc_H_add_24 : decode cb_H_add 24 = .ok (.getstatic 56, 3) := by decide +kernel
theorem dc_H_add_27 : decode cb_H_add 27 = .ok (.iload_n 2, 1) := by decide +kernel
theorem dc_H_add_28 : decode cb_H_add 28 = .ok (.iaload, 1) := by decide +kernel
theorem dc_H_add_29 : decode cb_H_add 29 = .ok (.invokestatic 53, 3) := by decide +kernel
theorem dc_H_add_32 : decode cb_H_add 32 = .ok (.aload_n 0, 1) := by decide +kernel
theorem dc_H_add_33 : decode cb_H_add 33 = .ok (.getfield 11, 3) := by decide +kernel
theorem dc_H_add_36 : decode cb_H_add 36 = .ok (.iload_n 1, 1) := by decide +kernel
theorem dc_H_add_37 : decode cb_H_add 37 = .ok (.aaload, 1) := by decide +kernel
theorem dc_H_add_38 : decode cb_H_add 38 = .ok (.invokestatic 59, 3) := by decide +kernel
theorem dc_H_add_41 : decode cb_H_add 41 = .ok (.aload_n 0, 1) := by decide +kernel
theorem dc_H_add_42 : decode cb_H_add 42 = .ok (.getfield 11, 3) := by decide +kernel
theorem dc_H_add_45 : decode cb_H_add 45 = .ok (.iload_n 1, 1) := by decide +kernel
theorem dc_H_add_46 : decode cb_H_add 46 = .ok (.aaload, 1) := by decide +kernel
theorem dc_H_add_47 : decode cb_H_add 47 = .ok (.getfield 63, 3) := by decide +kernel
theorem dc_H_add_50 : decode cb_H_add 50 = .ok (.astore 5, 2) := by decide +kernel
theorem dc_H_add_52 : decode cb_H_add 52 = .ok (.aload 5, 2) := by decide +kernel
theorem dc_H_add_54 : decode cb_H_add 54 = .ok (.getfield 67, 3) := by decide +kernel
theorem dc_H_add_57 : decode cb_H_add 57 = .ok (.bipush 24, 2) := by decide +kernel
theorem dc_H_add_59 : decode cb_H_add 59 = .ok (.if_icmp .lt 11, 3) := by decide +kernel
theorem dc_H_add_62 : decode cb_H_add 62 = .ok (.new 72, 3) := by decide +kernel
theorem dc_H_add_65 : decode cb_H_add 65 = .ok (.dup, 1) := by decide +kernel
theorem dc_H_add_66 : decode cb_H_add 66 = .ok (.invokespecial 74, 3) := by decide +kernel
theorem dc_H_add_69 : decode cb_H_add 69 = .ok (.athrow, 1) := by decide +kernel
theorem dc_H_add_70 : decode cb_H_add 70 = .ok (.aload 5, 2) := by decide +kernel
theorem dc_H_add_72 : decode cb_H_add 72 = .ok (.iload_n 2, 1) := by decide +kernel
theorem dc_H_add_73 : decode cb_H_add 73 = .ok (.iload_n 3, 1) := by decide +kernel
theorem dc_H_add_74 : decode cb_H_add 74 = .ok (.iload 4, 2) := by decide +kernel
theorem dc_H_add_76 : decode cb_H_add 76 = .ok (.invokevirtual 75, 3) := by decide +kernel
theorem dc_H_add_79 : decode cb_H_add 79 = .ok (.aload 5, 2) := by decide +kernel
theorem dc_H_add_81 : decode cb_H_add 81 = .ok (.getfield 67, 3) := by decide +kernel
theorem dc_H_add_84 : decode cb_H_add 84 = .ok (.ireturn, 1) := by decide +kernel
theorem dc_H_clear_0 : decode cb_H_clear 0 = .ok (.iload_n 1, 1) := by decide +kernel
theorem dc_H_clear_1 : decode cb_H_clear 1 = .ok (.iconst 5, 1) := by decide +kernel
theorem dc_H_clear_2 : decode cb_H_clear 2 = .ok (.invokestatic 46, 3) := by decide +kernel
theorem dc_H_clear_5 : decode cb_H_clear 5 = .ok (.aload_n 0, 1) := by decide +kernel
theorem dc_H_clear_6 : decode cb_H_clear 6 = .ok (.getfield 11, 3) := by decide +kernel
theorem dc_H_clear_9 : decode cb_H_clear 9 = .ok (.iload_n 1, 1) := by decide +kernel
theorem dc_H_clear_10 : decode cb_H_clear 10 = .ok (.aaload, 1) := by decide +kernel
theorem dc_H_clear_11 : decode cb_H_clear 11 = .ok (.invokestatic 59, 3) := by decide +kernel
theorem dc_H_clear_14 : decode cb_H_clear 14 = .ok (.aload_n 0, 1) := by decide +kernel
theorem dc_H_clear_15 : decode cb_H_clear 15 = .ok (.getfield 11, 3) := by decide +kernel
theorem dc_H_clear_18 : decode cb_H_clear 18 = .ok (.iload_n 1, 1) := by decide +kernel
theorem dc_H_clear_19 : decode cb_H_clear 19 = .ok (.aaload, 1) := by decide +kernel
theorem dc_H_clear_20 : decode cb_H_clear 20 = .ok (.getfield 63, 3) := by decide +kernel
theorem dc_H_clear_23 : decode cb_H_clear 23 = .ok (.getfield 67, 3) := by decide +kernel
theorem dc_H_clear_26 : decode cb_H_clear 26 = .ok (.istore_n 2, 1) := by decide +kernel
theorem dc_H_clear_27 : decode cb_H_clear 27 = .ok (.aload_n 0, 1) := by decide +kernel
theorem dc_H_clear_28 : decode cb_H_clear 28 = .ok (.getfield 11, 3) := by decide +kernel
theorem dc_H_clear_31 : decode cb_H_clear 31 = .ok (.iload_n 1, 1) := by decide +kernel
theorem dc_H_clear_32 : decode cb_H_clear 32 = .ok (.aaload, 1) := by decide +kernel
theorem dc_H_clear_33 : decode cb_H_clear 33 = .ok (.getfield 63, 3) := by decide +kernel
theorem dc_H_clear_36 : decode cb_H_clear 36 = .ok (.iconst 0, 1) := by decide +kernel
theorem dc_H_clear_37 : decode cb_H_clear 37 = .ok (.putfield 67, 3) := by decide +kernel
theorem dc_H_clear_40 : decode cb_H_clear 40 = .ok (.iload_n 2, 1) := by decide +kernel
theorem dc_H_clear_41 : decode cb_H_clear 41 = .ok (.ireturn, 1) := by decide +kernel
theorem dc_H_start_0 : decode cb_H_start 0 = .ok (.iload_n 1, 1) := by decide +kernel
theorem dc_H_start_1 : decode cb_H_start 1 = .ok (.iconst 5, 1) := by decide +kernel
theorem dc_H_start_2 : decode cb_H_start 2 = .ok (.invokestatic 46, 3) := by decide +kernel
theorem dc_H_start_5 : decode cb_H_start 5 = .ok (.aload_n 0, 1) := by decide +kernel
theorem dc_H_start_6 : decode cb_H_start 6 = .ok (.getfield 11, 3) := by decide +kernel
theorem dc_H_start_9 : decode cb_H_start 9 = .ok (.iload_n 1, 1) := by decide +kernel
theorem dc_H_start_10 : decode cb_H_start 10 = .ok (.aaload, 1) := by decide +kernel
theorem dc_H_start_11 : decode cb_H_start 11 = .ok (.invokevirtual 79, 3) := by decide +kernel
theorem dc_H_start_14 : decode cb_H_start 14 = .ok (.ifCond .eq 5, 3) := by decide +kernel
theorem dc_H_start_17 : decode cb_H_start 17 = .ok (.iconst 0, 1) := by decide +kernel
theorem dc_H_start_18 : decode cb_H_start 18 = .ok (.ireturn, 1) := by decide +kernel
theorem dc_H_start_19 : decode cb_H_start 19 = .ok (.aload_n 0, 1) := by decide +kernel
theorem dc_H_start_20 : decode cb_H_start 20 = .ok (.getfield 11, 3) := by decide +kernel
theorem dc_H_start_23 : decode cb_H_start 23 = .ok (.iload_n 1, 1) := by decide +kernel
theorem dc_H_start_24 : decode cb_H_start 24 = .ok (.aaload, 1) := by decide +kernel
theorem dc_H_start_25 : decode cb_H_start 25 = .ok (.invokevirtual 83, 3) := by decide +kernel
theorem dc_H_start_28 : decode cb_H_start 28 = .ok (.iconst 1, 1) := by decide +kernel
theorem dc_H_start_29 : decode cb_H_start 29 = .ok (.ireturn, 1) := by decide +kernel
theorem dc_H_interrupt_0 : decode cb_H_interrupt 0 = .ok (.iload_n 1, 1) := by decide +kernel
theorem dc_H_interrupt_1 : decode cb_H_interrupt 1 = .ok (.iconst 5, 1) := by decide +kernel
theorem dc_H_interrupt_2 : decode cb_H_interrupt 2 = .ok (.invokestatic 46, 3) := by decide +kernel
theorem dc_H_interrupt_5 : decode cb_H_interrupt 5 = .ok (.aload_n 0, 1) := by decide +kernel
theorem dc_H_interrupt_6 : decode cb_H_interrupt 6 = .ok (.getfield 11, 3) := by decide +kernel
theorem dc_H_interrupt_9 : decode cb_H_interrupt 9 = .ok (.iload_n 1, 1) := by decide +kernel
theorem dc_H_interrupt_10 : decode cb_H_interrupt 10 = .ok (.aaload, 1) := by decide +kernel
theorem dc_H_interrupt_11 : decode cb_H_interrupt 11 = .ok (.invokevirtual 79, 3) := by decide +kernel
theorem dc_H_interrupt_14 : decode cb_H_interrupt 14 = .ok (.ifCond .ne 5, 3) := by decide +kernel
theorem dc_H_interrupt_17 : decode cb_H_interrupt 17 = .ok (.iconst 0, 1) := by decide +kernel
theorem dc_H_interrupt_18 : decode cb_H_interrupt 18 = .ok (.ireturn, 1) := by decide +kernel
theorem dc_H_interrupt_19 : decode cb_H_interrupt 19 = .ok (.aload_n 0, 1) := by decide +kernel
theorem dc_H_interrupt_20 : decode cb_H_interrupt 20 = .ok (.aload_n 0, 1) := by decide +kernel
theorem dc_H_interrupt_21 : decode cb_H_interrupt 21 = .ok (.getfield 11, 3) := by decide +kernel
theorem dc_H_interrupt_24 : decode cb_H_interrupt 24 = .ok (.iload_n 1, 1) := by decide +kernel
theorem dc_H_interrupt_25 : decode cb_H_interrupt 25 = .ok (.aaload, 1) := by decide +kernel
theorem dc_H_interrupt_26 : decode cb_H_interrupt 26 = .ok (.invokevirtual 99, 3) := by decide +kernel
theorem dc_H_interrupt_29 : decode cb_H_interrupt 29 = .ok (.iconst 1, 1) := by decide +kernel
theorem dc_H_interrupt_30 : decode cb_H_interrupt 30 = .ok (.ireturn, 1) := by decide +kernel
theorem dc_H_global_0 : decode cb_H_global 0 = .ok (.iload_n 1, 1) := by decide +kernel
theorem dc_H_global_1 : decode cb_H_global 1 = .ok (.iconst 4, 1) := by decide +kernel
theorem dc_H_global_2 : decode cb_H_global 2 = .ok (.invokestatic 46, 3) := by decide +kernel
theorem dc_H_global_5 : decode cb_H_global 5 = .ok (.aload_n 0, 1) := by decide +kernel
theorem dc_H_global_6 : decode cb_H_global 6 = .ok (.getfield 32, 3) := by decide +kernel
theorem dc_H_global_9 : decode cb_H_global 9 = .ok (.iload_n 1, 1) := by decide +kernel
theorem dc_H_global_10 : decode cb_H_global 10 = .ok (.iaload, 1) := by decide +kernel
theorem dc_H_global_11 : decode cb_H_global 11 = .ok (.istore_n 3, 1) := by decide +kernel
theorem dc_H_global_12 : decode cb_H_global 12 = .ok (.aload_n 0, 1) := by decide +kernel
theorem dc_H_global_13 : decode cb_H_global 13 = .ok (.getfield 32, 3) := by decide +kernel
theorem dc_H_global_16 : decode cb_H_global 16 = .ok (.iload_n 1, 1) := by decide +kernel
theorem dc_H_global_17 : decode cb_H_global 17 = .ok (.iload_n 2, 1) := by decide +kernel
theorem dc_H_global_18 : decode cb_H_global 18 = .ok (.iastore, 1) := by decide +kernel
theorem dc_H_global_19 : decode cb_H_global 19 = .ok (.iload_n 3, 1) := by decide +kernel
theorem dc_H_global_20 : decode cb_H_global 20 = .ok (.ireturn, 1) := by decide +kernel
theorem dc_H_special_0 : decode cb_H_special 0 = .ok (.iload_n 1, 1) := by decide +kernel
theorem dc_H_special_1 : decode cb_H_special 1 = .ok (.iconst 5, 1) := by decide +kernel
theorem dc_H_special_2 : decode cb_H_special 2 = .ok (.invokestatic 46, 3) := by decide +kernel
theorem dc_H_special_5 : decode cb_H_special 5 = .ok (.iload_n 2, 1) := by decide +kernel
theorem dc_H_special_6 : decode cb_H_special 6 = .ok (.iconst 4, 1) := by decide +kernel
theorem dc_H_special_7 : decode cb_H_special 7 = .ok (.invokestatic 46, 3) := by decide +kernel
theorem dc_H_special_10 : decode cb_H_special 10 = .ok (.aload_n 0, 1) := by decide +kernel
theorem dc_H_special_11 : decode cb_H_special 11 = .ok (.aload_n 0, 1) := by decide +kernel
theorem dc_H_special_12 : decode cb_H_special 12 = .ok (.getfield 11, 3) := by decide +kernel
theorem dc_H_special_15 : decode cb_H_special 15 = .ok (.iload_n 1, 1) := by decide +kernel
theorem dc_H_special_16 : decode cb_H_special 16 = .ok (.aaload, 1) := by decide +kernel
theorem dc_H_special_17 : decode cb_H_special 17 = .ok (.iload_n 2, 1) := by decide +kernel
theorem dc_H_special_18 : decode cb_H_special 18 = .ok (.invokevirtual 102, 3) := by decide +kernel
theorem dc_H_special_21 : decode cb_H_special 21 = .ok (.ireturn, 1) := by decide +kernel
theorem dc_H_look_0 : decode cb_H_look 0 = .ok (.iload_n 1, 1) := by decide +kernel
theorem dc_H_look_1 : decode cb_H_look 1 = .ok (.iconst 5, 1) := by decide +kernel
theorem dc_H_look_2 : decode cb_H_look 2 = .ok (.invokestatic 46, 3) := by decide +kernel
theorem dc_H_look_5 : decode cb_H_look 5 = .ok (.aload_n 0, 1) := by decide +kernel
theorem dc_H_look_6 : decode cb_H_look 6 = .ok (.getfield 11, 3) := by decide +kernel
theorem dc_H_look_9 : decode cb_H_look 9 = .ok (.iload_n 1, 1) := by decide +kernel
theorem dc_H_look_10 : decode cb_H_look 10 = .ok (.aaload, 1) := by decide +kernel
theorem dc_H_look_11 : decode cb_H_look 11 = .ok (.astore_n 3, 1) := by decide +kernel
theorem dc_H_look_12 : decode cb_H_look 12 = .ok (.iload_n 2, 1) := by decide +kernel
theorem dc_H_look_13 : decode cb_H_look 13 = .ok (.tableswitch 122 0 9 #[55, 60, 65, 70, 78, 86, 99, 104, 109, 114], 55) := by decide +kernel
theorem dc_H_look_68 : decode cb_H_look 68 = .ok (.aload_n 3, 1) := by decide +kernel
theorem dc_H_look_69 : decode cb_H_look 69 = .ok (.getfield 106, 3) := by decide +kernel
theorem dc_H_look_72 : decode cb_H_look 72 = .ok (.ireturn, 1) := by decide +kernel
theorem dc_H_look_73 : decode cb_H_look 73 = .ok (.aload_n 3, 1) := by decide +kernel
theorem dc_H_look_74 : decode cb_H_look 74 = .ok (.getfield 109, 3) := by decide +kernel
theorem dc_H_look_77 : decode cb_H_look 77 = .ok (.ireturn, 1) := by decide +kernel
theorem dc_H_look_78 : decode cb_H_look 78 = .ok (.aload_n 3, 1) := by decide +kernel
theorem dc_H_look_79 : decode cb_H_look 79 = .ok (.getfield 112, 3) := by decide +kernel
theorem dc_H_look_82 : decode cb_H_look 82 = .ok (.ireturn, 1) := by decide +kernel
theorem dc_H_look_83 : decode cb_H_look 83 = .ok (.aload_n 3, 1) := by decide +kernel
theorem dc_H_look_84 : decode cb_H_look 84 = .ok (.getfield 115, 3) := by decide +kernel
theorem dc_H_look_87 : decode cb_H_look 87 = .ok (.getfield 119, 3) := by decide +kernel
theorem dc_H_look_90 : decode cb_H_look 90 = .ok (.ireturn, 1) := by decide +kernel
theorem dc_H_look_91 : decode cb_H_look 91 = .ok (.aload_n 3, 1) := by decide +kernel
theorem dc_H_look_92 : decode cb_H_look 92 = .ok (.getfield 122, 3) := by decide +kernel
theorem dc_H_look_95 : decode cb_H_look 95 = .ok (.getfield 119, 3) := by decide +kernel
theorem dc_H_look_98 : decode cb_H_look 98 = .ok (.ireturn, 1) := by decide +kernel
theorem dc_H_look_99 : decode cb_H_look 99 = .ok (.aload_n 3, 1) := by decide +kernel
theorem dc_H_look_100 : decode cb_H_look 100 = .ok (.getfield 125, 3) := by decide +kernel
theorem dc_H_look_103 : decode cb_H_look 103 = .ok (.ifCond .eq 7, 3) := by decide +kernel
theorem dc_H_look_106 : decode cb_H_look 106 = .ok (.iconst 1, 1) := by decide +kernel
theorem dc_H_look_107 : decode cb_H_look 107 = .ok (.goto 4, 3) := by decide +kernel
theorem dc_H_look_110 : decode cb_H_look 110 = .ok (.iconst 0, 1) := by decide +kernel
theorem dc_H_look_111 : decode cb_H_look 111 = .ok (.ireturn, 1) := by decide +kernel
theorem dc_H_look_112 : decode cb_H_look 112 = .ok (.aload_n 3, 1) := by decide +kernel
theorem dc_H_look_113 : decode cb_H_look 113 = .ok (.getfield 129, 3) := by decide +kernel
theorem dc_H_look_116 : decode cb_H_look 116 = .ok (.ireturn, 1) := by decide +kernel
theorem dc_H_look_117 : decode cb_H_look 117 = .ok (.aload_n 3, 1) := by decide +kernel
theorem dc_H_look_118 : decode cb_H_look 118 = .ok (.getfield 132, 3) := by decide +kernel
theorem dc_H_look_121 : decode cb_H_look 121 = .ok (.ireturn, 1) := by decide +kernel
theorem dc_H_look_122 : decode cb_H_look 122 = .ok (.aload_n 3, 1) := by decide +kernel
theorem dc_H_look_123 : decode cb_H_look 123 = .ok (.getfield 135, 3) := by decide +kernel
theorem dc_H_look_126 : decode cb_H_look 126 = .ok (.ireturn, 1) := by decide +kernel
theorem dc_H_look_127 : decode cb_H_look 127 = .ok (.aload_n 3, 1) := by decide +kernel
theorem dc_H_look_128 : decode cb_H_look 128 = .ok (.getfield 138, 3) := by decide +kernel
theorem dc_H_look_131 : decode cb_H_look 131 = .ok (.getfield 142, 3) := by decide +kernel
theorem dc_H_look_134 : decode cb_H_look 134 = .ok (.ireturn, 1) := by decide +kernel
theorem dc_H_look_135 : decode cb_H_look 135 = .ok (.new 143, 3) := by decide +kernel
theorem dc_H_look_138 : decode cb_H_look 138 = .ok (.dup, 1) := by decide +kernel
theorem dc_H_look_139 : decode cb_H_look 139 = .ok (.invokespecial 145, 3) := by decide +kernel
theorem dc_H_look_142 : decode cb_H_look 142 = .ok (.athrow, 1) := by decide +kernel
theorem dc_H_lock_0 : decode cb_H_lock 0 = .ok (.iload_n 1, 1) := by decide +kernel
theorem dc_H_lock_1 : decode cb_H_lock 1 = .ok (.iconst 3, 1) := by decide +kernel
theorem dc_H_lock_2 : decode cb_H_lock 2 = .ok (.invokestatic 46, 3) := by decide +kernel
theorem dc_H_lock_5 : decode cb_H_lock 5 = .ok (.iload_n 2, 1) := by decide +kernel
theorem dc_H_lock_6 : decode cb_H_lock 6 = .ok (.tableswitch 73 0 3 #[30, 40, 50, 63], 30) := by decide +kernel
theorem dc_H_lock_36 : decode cb_H_lock 36 = .ok (.aload_n 0, 1) := by decide +kernel
theorem dc_H_lock_37 : decode cb_H_lock 37 = .ok (.getfield 20, 3) := by decide +kernel
theorem dc_H_lock_40 : decode cb_H_lock 40 = .ok (.iload_n 1, 1) := by decide +kernel
theorem dc_H_lock_41 : decode cb_H_lock 41 = .ok (.aaload, 1) := by decide +kernel
theorem dc_H_lock_42 : decode cb_H_lock 42 = .ok (.getfield 146, 3) := by decide +kernel
theorem dc_H_lock_45 : decode cb_H_lock 45 = .ok (.ireturn, 1) := by decide +kernel
theorem dc_H_lock_46 : decode cb_H_lock 46 = .ok (.aload_n 0, 1) := by decide +kernel
theorem dc_H_lock_47 : decode cb_H_lock 47 = .ok (.getfield 20, 3) := by decide +kernel
theorem dc_H_lock_50 : decode cb_H_lock 50 = .ok (.iload_n 1, 1) := by decide +kernel
theorem dc_H_lock_51 : decode cb_H_lock 51 = .ok (.aaload, 1) := by decide +kernel
theorem dc_H_lock_52 : decode cb_H_lock 52 = .ok (.getfield 149, 3) := by decide +kernel
theorem dc_H_lock_55 : decode cb_H_lock 55 = .ok (.ireturn, 1) := by decide +kernel
theorem dc_H_lock_56 : decode cb_H_lock 56 = .ok (.aload_n 0, 1) := by decide +kernel
theorem dc_H_lock_57 : decode cb_H_lock 57 = .ok (.getfield 20, 3) := by decide +kernel
theorem dc_H_lock_60 : decode cb_H_lock 60 = .ok (.iload_n 1, 1) := by decide +kernel
theorem dc_H_lock_61 : decode cb_H_lock 61 = .ok (.aaload, 1) := by decide +kernel
theorem dc_H_lock_62 : decode cb_H_lock 62 = .ok (.getfield 152, 3) := by decide +kernel
theorem dc_H_lock_65 : decode cb_H_lock 65 = .ok (.getfield 142, 3) := by decide +kernel
theorem dc_H_lock_68 : decode cb_H_lock 68 = .ok (.ireturn, 1) := by decide +kernel
theorem dc_H_lock_69 : decode cb_H_lock 69 = .ok (.aload_n 0, 1) := by decide +kernel
theorem dc_H_lock_70 : decode cb_H_lock 70 = .ok (.getfield 27, 3) := by decide +kernel
theorem dc_H_lock_73 : decode cb_H_lock 73 = .ok (.iload_n 1, 1) := by decide +kernel
theorem dc_H_lock_74 : decode cb_H_lock 74 = .ok (.aaload, 1) := by decide +kernel
theorem dc_H_lock_75 : decode cb_H_lock 75 = .ok (.getfield 142, 3) := by decide +kernel
theorem dc_H_lock_78 : decode cb_H_lock 78 = .ok (.ireturn, 1) := by decide +kernel
theorem dc_H_lock_79 : decode cb_H_lock 79 = .ok (.new 143, 3) := by decide +kernel
theorem dc_H_lock_82 : decode cb_H_lock 82 = .ok (.dup, 1) := by decide +kernel
theorem dc_H_lock_83 : decode cb_H_lock 83 = .ok (.invokespecial 145, 3) := by decide +kernel
theorem dc_H_lock_86 : decode cb_H_lock 86 = .ok (.athrow, 1) := by decide +kernel
theorem dc_H_said_0 : decode cb_H_said 0 = .ok (.iload_n 1, 1) := by decide +kernel
theorem dc_H_said_1 : decode cb_H_said 1 = .ok (.ifCond .lt 17, 3) := by decide +kernel
theorem dc_H_said_4 : decode cb_H_said 4 = .ok (.iload_n 1, 1) := by decide +kernel
theorem dc_H_said_5 : decode cb_H_said 5 = .ok (.aload_n 0, 1) := by decide +kernel
theorem dc_H_said_6 : decode cb_H_said 6 = .ok (.getfield 155, 3) := by decide +kernel
theorem dc_H_said_9 : decode cb_H_said 9 = .ok (.if_icmp .ge 9, 3) := by decide +kernel
theorem dc_H_said_12 : decode cb_H_said 12 = .ok (.iload_n 1, 1) := by decide +kernel
theorem dc_H_said_13 : decode cb_H_said 13 = .ok (.bipush 40, 2) := by decide +kernel
theorem dc_H_said_15 : decode cb_H_said 15 = .ok (.if_icmp .lt 11, 3) := by decide +kernel
theorem dc_H_said_18 : decode cb_H_said 18 = .ok (.new 72, 3) := by decide +kernel
theorem dc_H_said_21 : decode cb_H_said 21 = .ok (.dup, 1) := by decide +kernel
theorem dc_H_said_22 : decode cb_H_said 22 = .ok (.invokespecial 74, 3) := by decide +kernel
theorem dc_H_said_25 : decode cb_H_said 25 = .ok (.athrow, 1) := by decide +kernel
theorem dc_H_said_26 : decode cb_H_said 26 = .ok (.aload_n 0, 1) := by decide +kernel
theorem dc_H_said_27 : decode cb_H_said 27 = .ok (.getfield 36, 3) := by decide +kernel
theorem dc_H_said_30 : decode cb_H_said 30 = .ok (.iload_n 1, 1) := by decide +kernel
theorem dc_H_said_31 : decode cb_H_said 31 = .ok (.iaload, 1) := by decide +kernel
theorem dc_H_said_32 : decode cb_H_said 32 = .ok (.ireturn, 1) := by decide +kernel
theorem dc_H_count_0 : decode cb_H_count 0 = .ok (.iload_n 1, 1) := by decide +kernel
theorem dc_H_count_1 : decode cb_H_count 1 = .ok (.tableswitch 87 0 7 #[47, 52, 57, 62, 67, 72, 77, 82], 47) := by decide +kernel
theorem dc_H_count_48 : decode cb_H_count 48 = .ok (.aload_n 0, 1) := by decide +kernel
theorem dc_H_count_49 : decode cb_H_count 49 = .ok (.getfield 155, 3) := by decide +kernel
theorem dc_H_count_52 : decode cb_H_count 52 = .ok (.ireturn, 1) := by decide +kernel
theorem dc_H_count_53 : decode cb_H_count 53 = .ok (.aload_n 0, 1) := by decide +kernel
theorem dc_H_count_54 : decode cb_H_count 54 = .ok (.getfield 89, 3) := by decide +kernel
theorem dc_H_count_57 : decode cb_H_count 57 = .ok (.ireturn, 1) := by decide +kernel
theorem dc_H_count_58 : decode cb_H_count 58 = .ok (.aload_n 0, 1) := by decide +kernel
theorem dc_H_count_59 : decode cb_H_count 59 = .ok (.getfield 158, 3) := by decide +kernel
theorem dc_H_count_62 : decode cb_H_count 62 = .ok (.ireturn, 1) := by decide +kernel
theorem dc_H_count_63 : decode cb_H_count 63 = .ok (.aload_n 0, 1) := by decide +kernel
theorem dc_H_count_64 : decode cb_H_count 64 = .ok (.invokevirtual 161, 3) := by decide +kernel
theorem dc_H_count_67 : decode cb_H_count 67 = .ok (.ireturn, 1) := by decide +kernel
theorem dc_H_count_68 : decode cb_H_count 68 = .ok (.aload_n 0, 1) := by decide +kernel
theorem dc_H_count_69 : decode cb_H_count 69 = .ok (.invokevirtual 164, 3) := by decide +kernel
theorem dc_H_count_72 : decode cb_H_count 72 = .ok (.ireturn, 1) := by decide +kernel
theorem dc_H_count_73 : decode cb_H_count 73 = .ok (.aload_n 0, 1) := by decide +kernel
theorem dc_H_count_74 : decode cb_H_count 74 = .ok (.getfield 167, 3) := by decide +kernel
theorem dc_H_count_77 : decode cb_H_count 77 = .ok (.ireturn, 1) := by decide +kernel
theorem dc_H_count_78 : decode cb_H_count 78 = .ok (.aload_n 0, 1) := by decide +kernel
theorem dc_H_count_79 : decode cb_H_count 79 = .ok (.getfield 43, 3) := by decide +kernel
theorem dc_H_count_82 : decode cb_H_count 82 = .ok (.ireturn, 1) := by decide +kernel
theorem dc_H_count_83 : decode cb_H_count 83 = .ok (.aload_n 0, 1) := by decide +kernel
theorem dc_H_count_84 : decode cb_H_count 84 = .ok (.getfield 170, 3) := by decide +kernel
theorem dc_H_count_87 : decode cb_H_count 87 = .ok (.ireturn, 1) := by decide +kernel
theorem dc_H_count_88 : decode cb_H_count 88 = .ok (.new 143, 3) := by decide +kernel
theorem dc_H_count_91 : decode cb_H_count 91 = .ok (.dup, 1) := by decide +kernel
theorem dc_H_count_92 : decode cb_H_count 92 = .ok (.invokespecial 145, 3) := by decide +kernel
theorem dc_H_count_95 : decode cb_H_count 95 = .ok (.athrow, 1) := by decide +kernel
theorem th_b_6 : (Int8.ofInt 6).toInt32 = 6 := by decide
theorem th_b_7 : (Int8.ofInt 7).toInt32 = 7 := by decide
theorem th_b_20 : (Int8.ofInt 20).toInt32 = 20 := by decide
theorem th_b_24 : (Int8.ofInt 24).toInt32 = 24 := by decide
theorem th_b_40 : (Int8.ofInt 40).toInt32 = 40 := by decide
theorem th_c_m1 : Int32.ofInt (-1) = -1 := by decide
theorem th_c_0 : Int32.ofInt 0 = 0 := by decide
theorem th_c_1 : Int32.ofInt 1 = 1 := by decide
theorem th_c_2 : Int32.ofInt 2 = 2 := by decide
theorem th_c_3 : Int32.ofInt 3 = 3 := by decide
theorem th_c_4 : Int32.ofInt 4 = 4 := by decide
theorem th_c_5 : Int32.ofInt 5 = 5 := by decide
theorem th_c_21 : Int32.ofInt 21 = 21 := by decide
theorem th_l_m1 : (-1 : Int32).toInt = -1 := by decide
theorem th_l_0 : (0 : Int32).toInt = 0 := by decide
theorem th_l_1 : (1 : Int32).toInt = 1 := by decide
theorem th_l_2 : (2 : Int32).toInt = 2 := by decide
theorem th_l_3 : (3 : Int32).toInt = 3 := by decide
theorem th_l_4 : (4 : Int32).toInt = 4 := by decide
theorem th_l_5 : (5 : Int32).toInt = 5 := by decide
theorem th_l_6 : (6 : Int32).toInt = 6 := by decide
theorem th_l_7 : (7 : Int32).toInt = 7 := by decide
theorem th_l_20 : (20 : Int32).toInt = 20 := by decide
theorem th_l_21 : (21 : Int32).toInt = 21 := by decide
theorem th_l_24 : (24 : Int32).toInt = 24 := by decide
theorem th_l_40 : (40 : Int32).toInt = 40 := by decide
theorem fd_H_11 : th_fd rn_H 11 tf_H 12 0 := ⟨by decide, (tb 225 (by decide +kernel) rfl)⟩
theorem fd_H_20 : th_fd rn_H 20 tf_H 12 1 := ⟨by decide, (tb 226 (by decide +kernel) rfl)⟩
theorem fd_H_27 : th_fd rn_H 27 tf_H 12 2 := ⟨by decide, (tb 227 (by decide +kernel) rfl)⟩
theorem fd_H_32 : th_fd rn_H 32 tf_H 12 3 := ⟨by decide, (tb 228 (by decide +kernel) rfl)⟩
theorem fd_H_36 : th_fd rn_H 36 tf_H 12 4 := ⟨by decide, (tb 229 (by decide +kernel) rfl)⟩
theorem fd_H_39 : th_fd rn_H 39 tf_H 12 6 := ⟨by decide, (tb 231 (by decide +kernel) rfl)⟩
theorem fd_H_43 : th_fd rn_H 43 tf_H 12 7 := ⟨by decide, (tb 232 (by decide +kernel) rfl)⟩
theorem fd_H_63 : th_fd rn_H 63 tf_S 18 1 := ⟨by decide, (tb 136 (by decide +kernel) rfl)⟩
theorem fd_H_67 : th_fd rn_H 67 tf_P 4 3 := ⟨by decide, (tb 88 (by decide +kernel) rfl)⟩
theorem fd_H_89 : th_fd rn_H 89 tf_H 12 9 := ⟨by decide, (tb 234 (by decide +kernel) rfl)⟩
theorem fd_H_106 : th_fd rn_H 106 tf_S 18 5 := ⟨by decide, (tb 144 (by decide +kernel) rfl)⟩
theorem fd_H_109 : th_fd rn_H 109 tf_S 18 6 := ⟨by decide, (tb 146 (by decide +kernel) rfl)⟩
theorem fd_H_112 : th_fd rn_H 112 tf_S 18 7 := ⟨by decide, (tb 147 (by decide +kernel) rfl)⟩
theorem fd_H_115 : th_fd rn_H 115 tf_S 18 2 := ⟨by decide, (tb 138 (by decide +kernel) rfl)⟩
theorem fd_H_119 : th_fd rn_H 119 tf_Q 3 2 := ⟨by decide, (tb 111 (by decide +kernel) rfl)⟩
theorem fd_H_122 : th_fd rn_H 122 tf_S 18 3 := ⟨by decide, (tb 140 (by decide +kernel) rfl)⟩
theorem fd_H_125 : th_fd rn_H 125 tf_S 18 11 := ⟨by decide, (tb 155 (by decide +kernel) rfl)⟩
theorem fd_H_129 : th_fd rn_H 129 tf_S 18 8 := ⟨by decide, (tb 149 (by decide +kernel) rfl)⟩
theorem fd_H_132 : th_fd rn_H 132 tf_S 18 9 := ⟨by decide, (tb 151 (by decide +kernel) rfl)⟩
theorem fd_H_135 : th_fd rn_H 135 tf_S 18 10 := ⟨by decide, (tb 153 (by decide +kernel) rfl)⟩
theorem fd_H_138 : th_fd rn_H 138 tf_S 18 4 := ⟨by decide, (tb 142 (by decide +kernel) rfl)⟩
theorem fd_H_142 : th_fd rn_H 142 tf_R 2 1 := ⟨by decide, (tb 127 (by decide +kernel) rfl)⟩
theorem fd_H_146 : th_fd rn_H 146 tf_M 3 1 := ⟨by decide, (tb 212 (by decide +kernel) rfl)⟩
theorem fd_H_149 : th_fd rn_H 149 tf_M 3 2 := ⟨by decide, (tb 214 (by decide +kernel) rfl)⟩
theorem fd_H_152 : th_fd rn_H 152 tf_M 3 0 := ⟨by decide, (tb 210 (by decide +kernel) rfl)⟩
theorem fd_H_155 : th_fd rn_H 155 tf_H 12 5 := ⟨by decide, (tb 230 (by decide +kernel) rfl)⟩
theorem fd_H_158 : th_fd rn_H 158 tf_H 12 8 := ⟨by decide, (tb 233 (by decide +kernel) rfl)⟩
theorem fd_H_167 : th_fd rn_H 167 tf_H 12 10 := ⟨by decide, (tb 235 (by decide +kernel) rfl)⟩
theorem fd_H_170 : th_fd rn_H 170 tf_H 12 11 := ⟨by decide, (tb 236 (by decide +kernel) rfl)⟩
theorem fd_H_176 : th_fd rn_H 176 tf_S 18 0 := ⟨by decide, (tb 134 (by decide +kernel) rfl)⟩
theorem fd_H_179 : th_fd rn_H 179 tf_S 18 12 := ⟨by decide, (tb 157 (by decide +kernel) rfl)⟩
theorem fd_H_192 : th_fd rn_H 192 tf_P 4 0 := ⟨by decide, (tb 82 (by decide +kernel) rfl)⟩
theorem fd_H_195 : th_fd rn_H 195 tf_P 4 1 := ⟨by decide, (tb 84 (by decide +kernel) rfl)⟩
theorem fd_H_198 : th_fd rn_H 198 tf_P 4 2 := ⟨by decide, (tb 86 (by decide +kernel) rfl)⟩
theorem fd_H_255 : th_fd rn_H 255 tf_Q 3 1 := ⟨by decide, (tb 108 (by decide +kernel) rfl)⟩
theorem fd_H_273 : th_fd rn_H 273 tf_S 18 15 := ⟨by decide, (tb 160 (by decide +kernel) rfl)⟩
theorem fd_H_285 : th_fd rn_H 285 tf_S 18 13 := ⟨by decide, (tb 158 (by decide +kernel) rfl)⟩
theorem fd_H_288 : th_fd rn_H 288 tf_S 18 14 := ⟨by decide, (tb 159 (by decide +kernel) rfl)⟩
theorem fd_H_291 : th_fd rn_H 291 tf_S 18 16 := ⟨by decide, (tb 161 (by decide +kernel) rfl)⟩
theorem fd_H_294 : th_fd rn_H 294 tf_S 18 17 := ⟨by decide, (tb 162 (by decide +kernel) rfl)⟩
theorem fd_H_310 : th_fd rn_H 310 tf_Q 3 0 := ⟨by decide, (tb 106 (by decide +kernel) rfl)⟩
theorem fd_M_18 : th_fd rn_M 18 tf_M 3 1 := ⟨by decide, (tb 211 (by decide +kernel) rfl)⟩
theorem fd_M_22 : th_fd rn_M 22 tf_M 3 2 := ⟨by decide, (tb 213 (by decide +kernel) rfl)⟩
theorem fd_Q_9 : th_fd rn_Q 9 tf_Q 3 0 := ⟨by decide, (tb 105 (by decide +kernel) rfl)⟩
theorem fd_Q_15 : th_fd rn_Q 15 tf_Q 3 1 := ⟨by decide, (tb 107 (by decide +kernel) rfl)⟩
theorem fd_Q_18 : th_fd rn_Q 18 tf_Q 3 2 := ⟨by decide, (tb 109 (by decide +kernel) rfl)⟩
theorem fd_P_9 : th_fd rn_P 9 tf_P 4 0 := ⟨by decide, (tb 81 (by decide +kernel) rfl)⟩
theorem fd_P_15 : th_fd rn_P 15 tf_P 4 1 := ⟨by decide, (tb 83 (by decide +kernel) rfl)⟩
theorem fd_P_18 : th_fd rn_P 18 tf_P 4 2 := ⟨by decide, (tb 85 (by decide +kernel) rfl)⟩
theorem fd_P_21 : th_fd rn_P 21 tf_P 4 3 := ⟨by decide, (tb 87 (by decide +kernel) rfl)⟩
theorem fd_R_9 : th_fd rn_R 9 tf_R 2 0 := ⟨by decide, (tb 125 (by decide +kernel) rfl)⟩
theorem fd_R_15 : th_fd rn_R 15 tf_R 2 1 := ⟨by decide, (tb 126 (by decide +kernel) rfl)⟩
theorem fd_S_23 : th_fd rn_S 23 tf_S 18 2 := ⟨by decide, (tb 137 (by decide +kernel) rfl)⟩
theorem fd_S_27 : th_fd rn_S 27 tf_S 18 3 := ⟨by decide, (tb 139 (by decide +kernel) rfl)⟩
theorem fd_S_37 : th_fd rn_S 37 tf_S 18 5 := ⟨by decide, (tb 143 (by decide +kernel) rfl)⟩
theorem fd_S_41 : th_fd rn_S 41 tf_S 18 8 := ⟨by decide, (tb 148 (by decide +kernel) rfl)⟩
theorem fd_S_50 : th_fd rn_S 50 tf_S 18 6 := ⟨by decide, (tb 145 (by decide +kernel) rfl)⟩
theorem fd_S_53 : th_fd rn_S 53 tf_S 18 9 := ⟨by decide, (tb 150 (by decide +kernel) rfl)⟩
theorem fd_S_56 : th_fd rn_S 56 tf_S 18 10 := ⟨by decide, (tb 152 (by decide +kernel) rfl)⟩
theorem fd_S_59 : th_fd rn_S 59 tf_Q 3 2 := ⟨by decide, (tb 110 (by decide +kernel) rfl)⟩
theorem fd_S_65 : th_fd rn_S 65 tf_S 18 11 := ⟨by decide, (tb 154 (by decide +kernel) rfl)⟩
theorem fd_S_69 : th_fd rn_S 69 tf_S 18 12 := ⟨by decide, (tb 156 (by decide +kernel) rfl)⟩
theorem ok_H_46 : th_okS rn_H 46 yn_H_requireBelow cb_H_requireBelow 2 none 2 := ⟨⟨(tb 274 (by decide +kernel) rfl), (tb 47 (by decide +kernel) rfl), (tb 272 (by decide +kernel) rfl), by decide, by decide, by decide⟩, (tb 273 (by decide +kernel) rfl)⟩
theorem ok_H_53 : th_okS rn_H 53 yn_H_requireOperand cb_H_requireOperand 2 none 2 := ⟨⟨(tb 345 (by decide +kernel) rfl), (tb 47 (by decide +kernel) rfl), (tb 343 (by decide +kernel) rfl), by decide, by decide, by decide⟩, (tb 344 (by decide +kernel) rfl)⟩
theorem ok_H_59 : th_okS rn_H 59 yn_H_requireNotAlive cb_H_requireNotAlive 1 none 1 := ⟨⟨(tb 350 (by decide +kernel) rfl), (tb 47 (by decide +kernel) rfl), (tb 348 (by decide +kernel) rfl), by decide, by decide, by decide⟩, (tb 349 (by decide +kernel) rfl)⟩
theorem ok_H_75 : th_okV rn_H 75 rn_P yn_P_append cb_P_append 4 none 3 := ⟨⟨(tb 388 (by decide +kernel) rfl), (tb 49 (by decide +kernel) rfl), (tb 385 (by decide +kernel) rfl), by decide, by decide, by decide⟩, (tb 386 (by decide +kernel) rfl), (tb 387 (by decide +kernel) rfl)⟩
theorem ok_H_79 : th_okV rn_H 79 rn_S yn_S_isAlive cb_S_isAlive 1 (some .boolean) 0 := ⟨⟨(tb 354 (by decide +kernel) rfl), (tb 48 (by decide +kernel) rfl), (tb 351 (by decide +kernel) rfl), by decide, by decide, by decide⟩, (tb 352 (by decide +kernel) rfl), (tb 353 (by decide +kernel) rfl)⟩
theorem ok_H_83 : th_okV rn_H 83 rn_S yn_S_beginAnew cb_S_beginAnew 1 none 0 := ⟨⟨(tb 406 (by decide +kernel) rfl), (tb 48 (by decide +kernel) rfl), (tb 403 (by decide +kernel) rfl), by decide, by decide, by decide⟩, (tb 404 (by decide +kernel) rfl), (tb 405 (by decide +kernel) rfl)⟩
theorem ok_H_86 : th_okS rn_H 86 yn_H_requireBetween cb_H_requireBetween 3 none 3 := ⟨⟨(tb 277 (by decide +kernel) rfl), (tb 47 (by decide +kernel) rfl), (tb 275 (by decide +kernel) rfl), by decide, by decide, by decide⟩, (tb 276 (by decide +kernel) rfl)⟩
theorem ok_H_92 : th_okV rn_H 92 rn_H yn_H_nextReady cb_H_nextReady 3 (some .int) 0 := ⟨⟨(tb 425 (by decide +kernel) rfl), (tb 47 (by decide +kernel) rfl), (tb 422 (by decide +kernel) rfl), by decide, by decide, by decide⟩, (tb 424 (by decide +kernel) rfl), (tb 1 (by decide +kernel) rfl)⟩
theorem ok_H_96 : th_okV rn_H 96 rn_H yn_H_takeTurn cb_H_takeTurn 6 none 1 := ⟨⟨(tb 429 (by decide +kernel) rfl), (tb 47 (by decide +kernel) rfl), (tb 426 (by decide +kernel) rfl), by decide, by decide, by decide⟩, (tb 428 (by decide +kernel) rfl), (tb 2 (by decide +kernel) rfl)⟩
theorem ok_H_99 : th_okV rn_H 99 rn_H yn_H_interruptAlive cb_H_interruptAlive 2 none 1 := ⟨⟨(tb 545 (by decide +kernel) rfl), (tb 47 (by decide +kernel) rfl), (tb 542 (by decide +kernel) rfl), by decide, by decide, by decide⟩, (tb 544 (by decide +kernel) rfl), (tb 19 (by decide +kernel) rfl)⟩
theorem ok_H_102 : th_okV rn_H 102 rn_H yn_H_read cb_H_read 4 (some .int) 2 := ⟨⟨(tb 446 (by decide +kernel) rfl), (tb 47 (by decide +kernel) rfl), (tb 443 (by decide +kernel) rfl), by decide, by decide, by decide⟩, (tb 445 (by decide +kernel) rfl), (tb 6 (by decide +kernel) rfl)⟩
theorem ok_H_161 : th_okV rn_H 161 rn_H yn_H_aliveCount cb_H_aliveCount 3 (some .int) 0 := ⟨⟨(tb 617 (by decide +kernel) rfl), (tb 47 (by decide +kernel) rfl), (tb 614 (by decide +kernel) rfl), by decide, by decide, by decide⟩, (tb 616 (by decide +kernel) rfl), (tb 22 (by decide +kernel) rfl)⟩
theorem ok_H_164 : th_okV rn_H 164 rn_H yn_H_readyCount cb_H_readyCount 3 (some .int) 0 := ⟨⟨(tb 621 (by decide +kernel) rfl), (tb 47 (by decide +kernel) rfl), (tb 618 (by decide +kernel) rfl), by decide, by decide, by decide⟩, (tb 620 (by decide +kernel) rfl), (tb 23 (by decide +kernel) rfl)⟩
theorem ok_H_182 : th_okV rn_H 182 rn_H yn_H_raise cb_H_raise 3 none 2 := ⟨⟨(tb 433 (by decide +kernel) rfl), (tb 47 (by decide +kernel) rfl), (tb 430 (by decide +kernel) rfl), by decide, by decide, by decide⟩, (tb 432 (by decide +kernel) rfl), (tb 3 (by decide +kernel) rfl)⟩
theorem ok_H_186 : th_okV rn_H 186 rn_H yn_H_finish cb_H_finish 4 none 2 := ⟨⟨(tb 438 (by decide +kernel) rfl), (tb 47 (by decide +kernel) rfl), (tb 435 (by decide +kernel) rfl), by decide, by decide, by decide⟩, (tb 437 (by decide +kernel) rfl), (tb 4 (by decide +kernel) rfl)⟩
theorem ok_H_189 : th_okV rn_H 189 rn_H yn_H_countInstruction cb_H_countInstruction 2 none 1 := ⟨⟨(tb 479 (by decide +kernel) rfl), (tb 47 (by decide +kernel) rfl), (tb 476 (by decide +kernel) rfl), by decide, by decide, by decide⟩, (tb 478 (by decide +kernel) rfl), (tb 10 (by decide +kernel) rfl)⟩
theorem ok_H_201 : th_okV rn_H 201 rn_H yn_H_perform cb_H_perform 5 (some .int) 4 := ⟨⟨(tb 483 (by decide +kernel) rfl), (tb 47 (by decide +kernel) rfl), (tb 480 (by decide +kernel) rfl), by decide, by decide, by decide⟩, (tb 482 (by decide +kernel) rfl), (tb 11 (by decide +kernel) rfl)⟩
theorem ok_H_205 : th_okV rn_H 205 rn_H yn_H_write cb_H_write 5 none 3 := ⟨⟨(tb 454 (by decide +kernel) rfl), (tb 47 (by decide +kernel) rfl), (tb 451 (by decide +kernel) rfl), by decide, by decide, by decide⟩, (tb 453 (by decide +kernel) rfl), (tb 7 (by decide +kernel) rfl)⟩
theorem ok_H_209 : th_okS rn_H 209 yn_H_bind cb_H_bind 3 (some .int) 3 := ⟨⟨(tb 486 (by decide +kernel) rfl), (tb 47 (by decide +kernel) rfl), (tb 484 (by decide +kernel) rfl), by decide, by decide, by decide⟩, (tb 485 (by decide +kernel) rfl)⟩
theorem ok_H_213 : th_okS rn_H 213 yn_H_unbind cb_H_unbind 3 (some .int) 2 := ⟨⟨(tb 498 (by decide +kernel) rfl), (tb 47 (by decide +kernel) rfl), (tb 496 (by decide +kernel) rfl), by decide, by decide, by decide⟩, (tb 497 (by decide +kernel) rfl)⟩
theorem ok_H_216 : th_okV rn_H 216 rn_H yn_H_goFor cb_H_goFor 5 none 3 := ⟨⟨(tb 506 (by decide +kernel) rfl), (tb 47 (by decide +kernel) rfl), (tb 503 (by decide +kernel) rfl), by decide, by decide, by decide⟩, (tb 505 (by decide +kernel) rfl), (tb 12 (by decide +kernel) rfl)⟩
theorem ok_H_219 : th_okV rn_H 219 rn_H yn_H_unlock cb_H_unlock 4 (some .int) 2 := ⟨⟨(tb 518 (by decide +kernel) rfl), (tb 47 (by decide +kernel) rfl), (tb 515 (by decide +kernel) rfl), by decide, by decide, by decide⟩, (tb 517 (by decide +kernel) rfl), (tb 13 (by decide +kernel) rfl)⟩
theorem ok_H_222 : th_okV rn_H 222 rn_H yn_H_tryLock cb_H_tryLock 5 none 3 := ⟨⟨(tb 522 (by decide +kernel) rfl), (tb 47 (by decide +kernel) rfl), (tb 519 (by decide +kernel) rfl), by decide, by decide, by decide⟩, (tb 521 (by decide +kernel) rfl), (tb 14 (by decide +kernel) rfl)⟩
theorem ok_H_225 : th_okV rn_H 225 rn_H yn_H_beginWait cb_H_beginWait 5 (some .int) 3 := ⟨⟨(tb 526 (by decide +kernel) rfl), (tb 47 (by decide +kernel) rfl), (tb 523 (by decide +kernel) rfl), by decide, by decide, by decide⟩, (tb 525 (by decide +kernel) rfl), (tb 15 (by decide +kernel) rfl)⟩
theorem ok_H_228 : th_okV rn_H 228 rn_H yn_H_tellFirst cb_H_tellFirst 3 none 1 := ⟨⟨(tb 530 (by decide +kernel) rfl), (tb 47 (by decide +kernel) rfl), (tb 527 (by decide +kernel) rfl), by decide, by decide, by decide⟩, (tb 529 (by decide +kernel) rfl), (tb 16 (by decide +kernel) rfl)⟩
theorem ok_H_232 : th_okV rn_H 232 rn_H yn_H_tellAll cb_H_tellAll 3 none 1 := ⟨⟨(tb 534 (by decide +kernel) rfl), (tb 47 (by decide +kernel) rfl), (tb 531 (by decide +kernel) rfl), by decide, by decide, by decide⟩, (tb 533 (by decide +kernel) rfl), (tb 17 (by decide +kernel) rfl)⟩
theorem ok_H_235 : th_okS rn_H 235 yn_H_startOther cb_H_startOther 1 (some .int) 1 := ⟨⟨(tb 537 (by decide +kernel) rfl), (tb 47 (by decide +kernel) rfl), (tb 535 (by decide +kernel) rfl), by decide, by decide, by decide⟩, (tb 536 (by decide +kernel) rfl)⟩
theorem ok_H_239 : th_okV rn_H 239 rn_H yn_H_beginJoin cb_H_beginJoin 5 (some .int) 3 := ⟨⟨(tb 541 (by decide +kernel) rfl), (tb 47 (by decide +kernel) rfl), (tb 538 (by decide +kernel) rfl), by decide, by decide, by decide⟩, (tb 540 (by decide +kernel) rfl), (tb 18 (by decide +kernel) rfl)⟩
theorem ok_H_242 : th_okS rn_H 242 yn_H_hook cb_H_hook 3 (some .int) 3 := ⟨⟨(tb 549 (by decide +kernel) rfl), (tb 47 (by decide +kernel) rfl), (tb 547 (by decide +kernel) rfl), by decide, by decide, by decide⟩, (tb 548 (by decide +kernel) rfl)⟩
theorem ok_H_245 : th_okV rn_H 245 rn_H yn_H_jumpIfZero cb_H_jumpIfZero 4 none 3 := ⟨⟨(tb 553 (by decide +kernel) rfl), (tb 47 (by decide +kernel) rfl), (tb 550 (by decide +kernel) rfl), by decide, by decide, by decide⟩, (tb 552 (by decide +kernel) rfl), (tb 20 (by decide +kernel) rfl)⟩
theorem ok_H_248 : th_okV rn_H 248 rn_H yn_H_keepSaid cb_H_keepSaid 2 none 1 := ⟨⟨(tb 557 (by decide +kernel) rfl), (tb 47 (by decide +kernel) rfl), (tb 554 (by decide +kernel) rfl), by decide, by decide, by decide⟩, (tb 556 (by decide +kernel) rfl), (tb 21 (by decide +kernel) rfl)⟩
theorem ok_H_251 : th_okV rn_H 251 rn_Q yn_Q_latest cb_Q_latest 3 (some .int) 1 := ⟨⟨(tb 450 (by decide +kernel) rfl), (tb 50 (by decide +kernel) rfl), (tb 447 (by decide +kernel) rfl), by decide, by decide, by decide⟩, (tb 448 (by decide +kernel) rfl), (tb 449 (by decide +kernel) rfl)⟩
theorem ok_H_258 : th_okV rn_H 258 rn_Q yn_Q_isFull cb_Q_isFull 1 (some .boolean) 0 := ⟨⟨(tb 490 (by decide +kernel) rfl), (tb 50 (by decide +kernel) rfl), (tb 487 (by decide +kernel) rfl), by decide, by decide, by decide⟩, (tb 488 (by decide +kernel) rfl), (tb 489 (by decide +kernel) rfl)⟩
theorem ok_H_261 : th_okV rn_H 261 rn_Q yn_Q_append cb_Q_append 3 none 2 := ⟨⟨(tb 494 (by decide +kernel) rfl), (tb 50 (by decide +kernel) rfl), (tb 491 (by decide +kernel) rfl), by decide, by decide, by decide⟩, (tb 492 (by decide +kernel) rfl), (tb 493 (by decide +kernel) rfl)⟩
theorem ok_H_263 : th_okV rn_H 263 rn_Q yn_Q_takeOut cb_Q_takeOut 3 none 1 := ⟨⟨(tb 502 (by decide +kernel) rfl), (tb 50 (by decide +kernel) rfl), (tb 499 (by decide +kernel) rfl), by decide, by decide, by decide⟩, (tb 500 (by decide +kernel) rfl), (tb 501 (by decide +kernel) rfl)⟩
theorem ok_H_266 : th_okV rn_H 266 rn_M yn_M_isOpenTo cb_M_isOpenTo 2 (some .boolean) 1 := ⟨⟨(tb 510 (by decide +kernel) rfl), (tb 52 (by decide +kernel) rfl), (tb 507 (by decide +kernel) rfl), by decide, by decide, by decide⟩, (tb 508 (by decide +kernel) rfl), (tb 509 (by decide +kernel) rfl)⟩
theorem ok_H_270 : th_okV rn_H 270 rn_M yn_M_give cb_M_give 3 none 2 := ⟨⟨(tb 471 (by decide +kernel) rfl), (tb 52 (by decide +kernel) rfl), (tb 468 (by decide +kernel) rfl), by decide, by decide, by decide⟩, (tb 469 (by decide +kernel) rfl), (tb 470 (by decide +kernel) rfl)⟩
theorem ok_H_276 : th_okV rn_H 276 rn_R yn_R_append cb_R_append 2 none 1 := ⟨⟨(tb 514 (by decide +kernel) rfl), (tb 51 (by decide +kernel) rfl), (tb 511 (by decide +kernel) rfl), by decide, by decide, by decide⟩, (tb 512 (by decide +kernel) rfl), (tb 513 (by decide +kernel) rfl)⟩
theorem ok_H_278 : th_okV rn_H 278 rn_H yn_H_passOn cb_H_passOn 3 none 1 := ⟨⟨(tb 459 (by decide +kernel) rfl), (tb 47 (by decide +kernel) rfl), (tb 456 (by decide +kernel) rfl), by decide, by decide, by decide⟩, (tb 458 (by decide +kernel) rfl), (tb 8 (by decide +kernel) rfl)⟩
theorem ok_H_282 : th_okV rn_H 282 rn_R yn_R_takeFirst cb_R_takeFirst 2 (some .int) 0 := ⟨⟨(tb 463 (by decide +kernel) rfl), (tb 51 (by decide +kernel) rfl), (tb 460 (by decide +kernel) rfl), by decide, by decide, by decide⟩, (tb 461 (by decide +kernel) rfl), (tb 462 (by decide +kernel) rfl)⟩
theorem ok_H_297 : th_okV rn_H 297 rn_R yn_R_takeOut cb_R_takeOut 4 none 1 := ⟨⟨(tb 467 (by decide +kernel) rfl), (tb 51 (by decide +kernel) rfl), (tb 546 (by decide +kernel) rfl), by decide, by decide, by decide⟩, (tb 465 (by decide +kernel) rfl), (tb 466 (by decide +kernel) rfl)⟩
theorem ok_H_298 : th_okV rn_H 298 rn_S yn_S_forgetInterrupt cb_S_forgetInterrupt 1 none 0 := ⟨⟨(tb 414 (by decide +kernel) rfl), (tb 48 (by decide +kernel) rfl), (tb 434 (by decide +kernel) rfl), by decide, by decide, by decide⟩, (tb 412 (by decide +kernel) rfl), (tb 413 (by decide +kernel) rfl)⟩
theorem ok_H_301 : th_okV rn_H 301 rn_H yn_H_runHooks cb_H_runHooks 5 none 1 := ⟨⟨(tb 442 (by decide +kernel) rfl), (tb 47 (by decide +kernel) rfl), (tb 439 (by decide +kernel) rfl), by decide, by decide, by decide⟩, (tb 441 (by decide +kernel) rfl), (tb 5 (by decide +kernel) rfl)⟩
theorem ok_H_304 : th_okV rn_H 304 rn_S yn_S_forgetAll cb_S_forgetAll 1 none 0 := ⟨⟨(tb 410 (by decide +kernel) rfl), (tb 48 (by decide +kernel) rfl), (tb 455 (by decide +kernel) rfl), by decide, by decide, by decide⟩, (tb 408 (by decide +kernel) rfl), (tb 409 (by decide +kernel) rfl)⟩
theorem ok_H_307 : th_okV rn_H 307 rn_H yn_H_wakeJoiners cb_H_wakeJoiners 4 none 1 := ⟨⟨(tb 475 (by decide +kernel) rfl), (tb 47 (by decide +kernel) rfl), (tb 472 (by decide +kernel) rfl), by decide, by decide, by decide⟩, (tb 474 (by decide +kernel) rfl), (tb 9 (by decide +kernel) rfl)⟩
theorem ok_Q_22 : th_okV rn_Q 22 rn_Q yn_Q_isFull cb_Q_isFull 1 (some .boolean) 0 := ⟨⟨(tb 490 (by decide +kernel) rfl), (tb 50 (by decide +kernel) rfl), (tb 495 (by decide +kernel) rfl), by decide, by decide, by decide⟩, (tb 488 (by decide +kernel) rfl), (tb 489 (by decide +kernel) rfl)⟩
theorem ok_R_19 : th_okV rn_R 19 rn_R yn_R_takeOut cb_R_takeOut 4 none 1 := ⟨⟨(tb 467 (by decide +kernel) rfl), (tb 51 (by decide +kernel) rfl), (tb 464 (by decide +kernel) rfl), by decide, by decide, by decide⟩, (tb 465 (by decide +kernel) rfl), (tb 466 (by decide +kernel) rfl)⟩
theorem ok_S_47 : th_okV rn_S 47 rn_S yn_S_forgetAll cb_S_forgetAll 1 none 0 := ⟨⟨(tb 410 (by decide +kernel) rfl), (tb 48 (by decide +kernel) rfl), (tb 407 (by decide +kernel) rfl), by decide, by decide, by decide⟩, (tb 408 (by decide +kernel) rfl), (tb 409 (by decide +kernel) rfl)⟩
theorem ok_S_62 : th_okV rn_S 62 rn_S yn_S_forgetInterrupt cb_S_forgetInterrupt 1 none 0 := ⟨⟨(tb 414 (by decide +kernel) rfl), (tb 48 (by decide +kernel) rfl), (tb 411 (by decide +kernel) rfl), by decide, by decide, by decide⟩, (tb 412 (by decide +kernel) rfl), (tb 413 (by decide +kernel) rfl)⟩
theorem okT_H_72 : th_okT rn_H 72 74 "java/lang/IndexOutOfBoundsException" ["java/lang/RuntimeException", "java/lang/Exception"] := ⟨by decide +kernel, by decide +kernel, (tb 370 (by decide +kernel) rfl), (tb 59 (by decide +kernel) rfl), by decide +kernel, by decide +kernel⟩
theorem okT_H_143 : th_okT rn_H 143 145 "java/lang/IllegalArgumentException" ["java/lang/RuntimeException", "java/lang/Exception"] := ⟨by decide +kernel, by decide +kernel, (tb 278 (by decide +kernel) rfl), (tb 57 (by decide +kernel) rfl), by decide +kernel, by decide +kernel⟩
theorem okT_H_173 : th_okT rn_H 173 175 "java/lang/IllegalStateException" ["java/lang/RuntimeException", "java/lang/Exception"] := ⟨by decide +kernel, by decide +kernel, (tb 355 (by decide +kernel) rfl), (tb 58 (by decide +kernel) rfl), by decide +kernel, by decide +kernel⟩
theorem sl_H_50 : Cond.fieldLink rn_H 50 th_s91.1 th_s91.2.1 "[I" ∈ th_B := (tb 341 (by decide +kernel) rfl)
theorem sl_H_56 : Cond.fieldLink rn_H 56 th_s92.1 th_s92.2.1 "[I" ∈ th_B := (tb 346 (by decide +kernel) rfl)
