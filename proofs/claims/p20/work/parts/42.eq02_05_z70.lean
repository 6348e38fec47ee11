theorem z70 : (70 : Int32).toInt = 70 := by decide +kernel
