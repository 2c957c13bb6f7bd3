/-! THE FRESH WORLD, by running both constructors -/
theorem zk_true : zk_all = true := by decide +kernel
