theorem zz_dummy : 1 = 1 := rfl
