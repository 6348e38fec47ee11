theorem z1200 : (1200 : Int32).toInt = 1200 := by decide +kernel
