/-! RANGES: the class lays them once, held; the reference each time, as far as they are not great -/
noncomputable def zHd (x : Int64) : Int64 := if (if x < 2000000000 then x else 2000000000) < -2000000000 then -2000000000 else (if x < 2000000000 then x else 2000000000)
