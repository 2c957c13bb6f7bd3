/-! CALLS ON FRESH OBJECTS, by running them -/
theorem zz_cut : z_all 56 97 [[(4, 0, 2147483647)], [(0, 0, 0)], [(4, 2147483649, 4294967295)]] = true := by decide +kernel
theorem zz_waiting : z_all 70 140 [[]] = true := by decide +kernel
