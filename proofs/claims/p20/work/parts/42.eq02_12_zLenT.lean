noncomputable def zLenT (n : Nat) : Nat := ([6, 4, 4, 4, 4, 5, 3, 3, 3, 5, 5, 6, 6] : List Nat).getD n 0
