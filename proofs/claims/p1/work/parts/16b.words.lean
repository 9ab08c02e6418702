theorem fd_H_36 : th_fd rn_H 36 tf_H 12 4 := ⟨by decide, (tb 229 (by decide +kernel) rfl)⟩
theorem fd_O_25 : th_fd rn_O 25 tf_O 36 5 := ⟨by decide, (tb 633 (by decide +kernel) rfl)⟩
theorem fd_O_28 : th_fd rn_O 28 tf_O 36 6 := ⟨by decide, (tb 634 (by decide +kernel) rfl)⟩
theorem fd_O_34 : th_fd rn_O 34 tf_O 36 8 := ⟨by decide, (tb 636 (by decide +kernel) rfl)⟩
theorem fd_O_37 : th_fd rn_O 37 tf_O 36 9 := ⟨by decide, (tb 637 (by decide +kernel) rfl)⟩
theorem fd_O_61 : th_fd rn_O 61 tf_O 36 17 := ⟨by decide, (tb 645 (by decide +kernel) rfl)⟩
theorem fd_O_64 : th_fd rn_O 64 tf_O 36 18 := ⟨by decide, (tb 646 (by decide +kernel) rfl)⟩
theorem fd_O_67 : th_fd rn_O 67 tf_O 36 19 := ⟨by decide, (tb 647 (by decide +kernel) rfl)⟩
theorem fd_O_70 : th_fd rn_O 70 tf_O 36 20 := ⟨by decide, (tb 648 (by decide +kernel) rfl)⟩
theorem fd_O_86 : th_fd rn_O 86 tf_O 36 25 := ⟨by decide, (tb 653 (by decide +kernel) rfl)⟩
theorem fd_O_92 : th_fd rn_O 92 tf_O 36 27 := ⟨by decide, (tb 655 (by decide +kernel) rfl)⟩
theorem fd_O_98 : th_fd rn_O 98 tf_O 36 29 := ⟨by decide, (tb 657 (by decide +kernel) rfl)⟩
theorem fd_O_104 : th_fd rn_O 104 tf_O 36 31 := ⟨by decide, (tb 659 (by decide +kernel) rfl)⟩
theorem th_b_8 : (Int8.ofInt 8).toInt32 = 8 := by decide
theorem th_l_8 : (8 : Int32).toInt = 8 := by decide
theorem th_b_15 : (Int8.ofInt 15).toInt32 = 15 := by decide
theorem th_l_15 : (15 : Int32).toInt = 15 := by decide
theorem th_b_25 : (Int8.ofInt 25).toInt32 = 25 := by decide
theorem th_l_25 : (25 : Int32).toInt = 25 := by decide
theorem th_b_60 : (Int8.ofInt 60).toInt32 = 60 := by decide
theorem th_l_60 : (60 : Int32).toInt = 60 := by decide
theorem th_b_120 : (Int8.ofInt 120).toInt32 = 120 := by decide
theorem th_l_120 : (120 : Int32).toInt = 120 := by decide
