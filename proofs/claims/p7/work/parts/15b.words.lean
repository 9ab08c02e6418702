theorem fd_M_12 : th_fd rn_M 12 tf_M 3 0 := ⟨by decide, (tb 209 (by decide +kernel) rfl)⟩
theorem fd_S_12 : th_fd rn_S 12 tf_S 18 1 := ⟨by decide, (tb 135 (by decide +kernel) rfl)⟩
theorem fd_S_33 : th_fd rn_S 33 tf_S 18 4 := ⟨by decide, (tb 141 (by decide +kernel) rfl)⟩
theorem fd_S_44 : th_fd rn_S 44 tf_S 18 0 := ⟨by decide, (tb 133 (by decide +kernel) rfl)⟩
