theorem zl_75 : (75 : Int32).toInt = 75 := by decide
