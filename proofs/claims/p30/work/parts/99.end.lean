theorem end9 : 1 + 1 = 2 := rfl
