theorem zHeld (x : Int64) : fn_X6_held x = some (zHd x) := rfl
