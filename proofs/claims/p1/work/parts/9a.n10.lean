/-! A NONCE FOR EACH HEADER -/
theorem z_n10 : (List.range 91).all (fun i => z_pr (910 + i)) = true := by decide +kernel
