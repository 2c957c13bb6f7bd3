/-! A NONCE FOR EACH HEADER -/
theorem z_n2 : (List.range 91).all (fun i => z_pr (182 + i)) = true := by decide +kernel
