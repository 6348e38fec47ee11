noncomputable def zTL (k len i : Nat) : Int := if i < len then (zTab (k + i)).toInt else 0
