theorem tst_one : nI 0 = 0 := rfl
