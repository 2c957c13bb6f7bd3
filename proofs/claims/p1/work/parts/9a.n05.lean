/-! A NONCE FOR EACH HEADER -/
theorem z_n5 : (List.range 91).all (fun i => z_pr (455 + i)) = true := by decide +kernel
