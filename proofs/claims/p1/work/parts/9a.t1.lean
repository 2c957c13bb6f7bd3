/-! THE FRESH WORLD FOR MINE, by running both constructors -/
theorem zm_true : zm_all = true := by decide +kernel
