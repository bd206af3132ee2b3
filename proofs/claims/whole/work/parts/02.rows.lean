theorem tst_1 : (2 : Nat) + 2 = 4 := rfl
