theorem th_b_8 : (Int8.ofInt 8).toInt32 = 8 := by decide
theorem th_l_8 : (8 : Int32).toInt = 8 := by decide
theorem th_b_15 : (Int8.ofInt 15).toInt32 = 15 := by decide
theorem th_l_15 : (15 : Int32).toInt = 15 := by decide
theorem th_b_25 : (Int8.ofInt 25).toInt32 = 25 := by decide
theorem th_l_25 : (25 : Int32).toInt = 25 := by decide
theorem th_b_60 : (Int8.ofInt 60).toInt32 = 60 := by decide
theorem th_l_60 : (60 : Int32).toInt = 60 := by decide
theorem th_b_120 : (Int8.ofInt 120).toInt32 = 120 := by decide
theorem th_l_120 : (120 : Int32).toInt = 120 := by decide
