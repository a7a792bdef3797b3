theorem zz_test (a b : Nat) : a + b = b + a := Nat.add_comm a b
theorem zz_l : tables_1.length = 0 := by decide +kernel
