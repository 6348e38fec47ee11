noncomputable def zStT (n : Nat) : Nat := ([0, 7, 12, 17, 22, 27, 33, 37, 41, 45, 51, 57, 64] : List Nat).getD n 0
