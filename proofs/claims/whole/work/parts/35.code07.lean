/-! FACTS: the code is what the trees say -/
theorem cy_280 : cy_ok CY280 prog_14_method_116_code := mt_code (d := 7) (t := IY280) (by decide +kernel)
