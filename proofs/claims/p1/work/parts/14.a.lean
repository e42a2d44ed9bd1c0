/-! each call on the two fresh objects -/
theorem cs_0 : (0 : Int32).toInt = 0 := by decide
theorem cs_1 : ((Int64.ofNat 0) : Int64).toInt = 0 := by decide
theorem cs_2 : ((0 : Int32) : Int32).toInt = 0 := by decide
theorem cs_3 : ((Int32.ofInt 1) : Int32).toInt = 1 := by decide
theorem cs_4 : (((0 : Int32) - (Int32.ofInt 1)) : Int32).toInt = -1 := by decide
theorem cs_5 : (((Int32.ofInt 0) - (Int32.ofInt 1)) : Int32).toInt = -1 := by decide
theorem cs_6 : ((Int32.ofInt 3) : Int32).toInt = 3 := by decide
theorem cs_7 : ((2 : Int64) : Int64).toInt = 2 := by decide
theorem cs_8 : ((Int32.ofInt 4) : Int32).toInt = 4 := by decide
theorem cs_9 : ((3 : Int64) : Int64).toInt = 3 := by decide
theorem cs_10 : ((Int64.ofNat 1) : Int64).toInt = 1 := by decide
theorem cs_11 : ((2000000000 : Int32) : Int32).toInt = 2000000000 := by decide
theorem cs_12 : ((2000000000 : Int64) : Int64).toInt = 2000000000 := by decide
theorem cs_13 : (((Int8.ofInt 20).toInt32) : Int32).toInt = 20 := by decide
theorem cs_14 : ((20 : Int64) : Int64).toInt = 20 := by decide
