/-! ONE MORE REGION, by running -/
theorem zz_13 : z_all [(72, 142, [[(0, 0, 0), (0, 1, 0), (0, 2, 0), (4, 2147483649, 2147483903)]])] = true := by decide +kernel
